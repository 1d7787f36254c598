theorem tg_122 {M M1 : mm_M} (F : FR (fun a i : Nat => 11 ≤ a ∧ a ≤ 16) M M1) : ∀ a i : Nat, (7 ≤ a ∧ a ≤ 9) → M1.2.1 a i = M.2.1 a i := fun a i z => F_n F (show ¬ (11 ≤ a ∧ a ≤ 16) by omega) rfl
theorem tg_123 : ∀ a i : Nat, (a < 0) → (11 ≤ a ∧ a ≤ 16) := fun a i z => by omega
theorem tg_124 : ∀ a i : Nat, (11 ≤ a ∧ a ≤ 16) → (11 ≤ a ∧ a ≤ 16) := fun a i z => by omega
theorem tg_125 : ∀ a i : Nat, (a < 0) → (18 ≤ a ∧ a ≤ 27) := fun a i z => by omega
theorem tg_126 : ∀ a i : Nat, (18 ≤ a ∧ a ≤ 27) → (18 ≤ a ∧ a ≤ 27) := fun a i z => by omega
set_option maxRecDepth 4000 in
set_option maxHeartbeats 0 in
theorem C_20 {X : mm_X} {d : Nat} {M : mm_M} {Q : Option Value → mm_M → Prop} {k : Int32} {f : Int32} {s : Int32} {t : Int32} (hX : g_X X) (hd : 0 ≤ d) (hG : g_G M) (q1 : 0 ≤ k.toInt) (q2 : k.toInt ≤ 5) (q3 : 0 ≤ f.toInt) (q4 : f.toInt ≤ 149) (q5 : (k.toInt = 0 → f.toInt ≤ 29 ∧ 0 ≤ s.toInt ∧ s.toInt ≤ 7) ∧ (k.toInt = 1 → f.toInt ≤ 29 ∧ 0 ≤ s.toInt ∧ s.toInt ≤ 11) ∧ (k.toInt = 2 → f.toInt ≤ 29) ∧ (k.toInt = 3 → f.toInt ≤ 29) ∧ (k.toInt = 4 → f.toInt ≤ 11)) (q6 : NI M) (h : ∀ (r : Int32) (M1 : mm_M), g_G M1 → FR md_n M M1 → (150 ≤ (M.2.1 6 0).toInt → r.toInt = -1 ∧ (M1.2.1 6 0).toInt = (M.2.1 6 0).toInt) → ((M.2.1 6 0).toInt < 150 → r.toInt = (M.2.1 6 0).toInt ∧ (M1.2.1 6 0).toInt = (M.2.1 6 0).toInt + 1) → NI M1 → Q (some (.int r)) M1) : mm_T X d 20 0 [.ref 6, .int k, .int f, .int s, .int t] [] M Q := by
  have F0 : FR md_n M M := FR.rf
  refine to_an (pc := 0) rw_20_0 rfl ?_
  have b_1 := g_b hG (a := 6) (i := 0) (lo := 0) (hi := 150) rfl rfl
  refine tt_gI (pc := 1) rw_20_1 (g_o hG rfl) (v := (M.2.1 6 0)) rfl (to_c (pc := 4) rw_20_4 (x := (150 : Int32)) rfl rfl (b_clt (pc := 7) rw_20_7 (A := (M.2.1 6 0).toInt) (B := 150) rfl rfl (fun h2 => ?_) (fun h2 => ?_)))
  · refine to_an (pc := 12) rw_20_12 rfl (s_gR (pc := 13) rw_20_13 hG rfl (v := 7) rfl (to_an (pc := 16) rw_20_16 rfl (tt_gI (pc := 17) rw_20_17 (g_o hG rfl) (v := (M.2.1 6 0)) rfl (to_in (pc := 20) rw_20_20 rfl (s_ias (pc := 21) rw_20_21 hG rfl (n := 150) rfl (A := (M.2.1 6 0).toInt) rfl (by omega) (by omega) (fun M4 W3 => ?_))))))
    have hG5 := g_w hG W3 (A := k.toInt) rfl (lo := 0) (hi := 5) rfl rfl (by omega) (by decide)
    have F6 := FR.w F0 W3 (show 6 ≤ 7 ∧ 7 ≤ 10 by decide)
    refine to_an (pc := 22) rw_20_22 rfl (s_gR (pc := 23) rw_20_23 hG5 rfl (v := 8) rfl (to_an (pc := 26) rw_20_26 rfl ?_))
    have c_7 : M4.2.1 6 0 = (M.2.1 6 0) := (W_n W3 (fun z => absurd z.1 (by decide)) rfl)
    refine tt_gI (pc := 27) rw_20_27 (g_o hG5 rfl) (v := (M.2.1 6 0)) c_7 (to_in (pc := 30) rw_20_30 rfl (s_ias (pc := 31) rw_20_31 hG5 rfl (n := 150) rfl (A := (M.2.1 6 0).toInt) rfl (by omega) (by omega) (fun M9 W8 => ?_)))
    have hG10 := g_w hG5 W8 (A := f.toInt) rfl (lo := 0) (hi := 149) rfl rfl (by omega) (by decide)
    have F11 := FR.w F6 W8 (show 6 ≤ 8 ∧ 8 ≤ 10 by decide)
    refine to_an (pc := 32) rw_20_32 rfl (s_gR (pc := 33) rw_20_33 hG10 rfl (v := 9) rfl (to_an (pc := 36) rw_20_36 rfl ?_))
    have c_12 : M9.2.1 6 0 = (M.2.1 6 0) := (W_n W8 (fun z => absurd z.1 (by decide)) c_7)
    refine tt_gI (pc := 37) rw_20_37 (g_o hG10 rfl) (v := (M.2.1 6 0)) c_12 (to_in (pc := 40) rw_20_40 rfl (s_ias (pc := 41) rw_20_41 hG10 rfl (n := 150) rfl (A := (M.2.1 6 0).toInt) rfl (by omega) (by omega) (fun M14 W13 => ?_)))
    have hG15 := g_wf hG10 W13 rfl rfl (by decide)
    have F16 := FR.w F11 W13 (show 6 ≤ 9 ∧ 9 ≤ 10 by decide)
    have j_17 := NI_k q6 W3 W8 W13 q5
    refine to_an (pc := 42) rw_20_42 rfl (s_gR (pc := 43) rw_20_43 hG15 rfl (v := 10) rfl (to_an (pc := 46) rw_20_46 rfl ?_))
    have c_18 : M14.2.1 6 0 = (M.2.1 6 0) := (W_n W13 (fun z => absurd z.1 (by decide)) c_12)
    refine tt_gI (pc := 47) rw_20_47 (g_o hG15 rfl) (v := (M.2.1 6 0)) c_18 (to_i (pc := 50) rw_20_50 rfl (s_ias (pc := 52) rw_20_52 hG15 rfl (n := 150) rfl (A := (M.2.1 6 0).toInt) rfl (by omega) (by omega) (fun M20 W19 => ?_)))
    have hG21 := g_wf hG15 W19 rfl rfl (by decide)
    have F22 := FR.w F16 W19 (show 6 ≤ 10 ∧ 10 ≤ 10 by decide)
    refine to_an (pc := 53) rw_20_53 rfl (to_dupr (pc := 54) rw_20_54 ?_)
    have c_23 : M20.2.1 6 0 = (M.2.1 6 0) := (W_n W19 (fun z => absurd z.1 (by decide)) c_18)
    refine tt_gI (pc := 55) rw_20_55 (g_o hG21 rfl) (v := (M.2.1 6 0)) c_23 (to_c (pc := 58) rw_20_58 (x := (1 : Int32)) rfl rfl (s_add (pc := 59) rw_20_59 (A := (M.2.1 6 0).toInt) (B := 1) rfl rfl (by omega) (fun v24 e25 => s_pI (pc := 60) rw_20_60 hG21 rfl (fun M27 W26 => ?_))))
    have hG28 := g_w hG21 W26 (A := v24.toInt) rfl (lo := 0) (hi := 150) rfl rfl (by omega) (by decide)
    have F29 := FR.w F22 W26 (show 6 ≤ 6 ∧ 6 ≤ 10 by decide)
    refine to_an (pc := 63) rw_20_63 rfl ?_
    have c_30 : M27.2.1 6 0 = v24 := (W_e W26)
    refine tt_gI (pc := 64) rw_20_64 (g_o hG28 rfl) (v := v24) c_30 (to_c (pc := 67) rw_20_67 (x := (1 : Int32)) rfl rfl (s_sub (pc := 68) rw_20_68 (A := v24.toInt) (B := 1) rfl rfl (by omega) (fun v31 e32 => to_r0 (pc := 69) rw_20_69 ?_)))
    have t_33 : (M27.2.1 6 0).toInt = v24.toInt := congrArg Int32.toInt c_30
    have j_34 := (NI_f (fun a i z => W_n W26 (tg_107 a i z) rfl) (NI_f (fun a i z => W_n W19 (tg_108 a i _ z) rfl) j_17))
    exact h v31 M27 hG28 F29 (by omega) (by omega) j_34
  · refine to_c (pc := 10) rw_20_10 (x := (-1 : Int32)) rfl rfl (to_r0 (pc := 11) rw_20_11 ?_)
    have k_35 : (-1 : Int32).toInt = -1 := rfl
    exact h (-1 : Int32) M hG F0 (by omega) (by omega) q6
set_option maxRecDepth 4000 in
set_option maxHeartbeats 0 in
theorem T_9_0 {X : mm_X} {d : Nat} {M : mm_M} {Q : Option Value → mm_M → Prop} {p : Nat} (hX : g_X X) (hd : 0 ≤ d) (hp : p = 49 ∨ p = 58) (h : ∀ (M1 : mm_M), g_G M1 → FR md_k M M1 → Q (none) M1) : ∀ nn9 : Nat, (∀ (N : mm_M) (x2 : Int32), g_G N → FR md_k M N → (0 ≤ x2.toInt) → (x2.toInt ≤ 12) → 12 - x2.toInt < (nn9 : Int) → mm_T X d 9 54 [.ref 11, .ref p, .int x2] [] N Q) := by
  intro nn9
  induction nn9 with
  | zero =>
    intro N x2 hG F0 g1 g2 hm
    exfalso; omega
  | succ nn9 ih =>
    intro N x2 hG F0 g1 g2 hm
    refine to_in (pc := 54) rw_9_54 rfl (to_c (pc := 55) rw_9_55 (x := (12 : Int32)) rfl rfl (b_cge (pc := 57) rw_9_57 (A := x2.toInt) (B := 12) rfl rfl (fun h1 => ?_) (fun h1 => ?_)))
    · refine to_rv (pc := 78) rw_9_78 ?_
      exact h N hG F0 
    · refine to_an (pc := 60) rw_9_60 rfl (s_gR (pc := 61) rw_9_61 hG rfl (v := 15) rfl (to_in (pc := 64) rw_9_64 rfl (to_an (pc := 65) rw_9_65 rfl (s_gR (pc := 66) rw_9_66 hG (by rcases hp with rfl | rfl <;> rfl) (v := (p + 8)) (by rcases hp with rfl | rfl <;> rfl) (to_in (pc := 69) rw_9_69 rfl (s_lal (pc := 70) rw_9_70 hG (by rcases hp with rfl | rfl <;> rfl) (n := 12) (by rcases hp with rfl | rfl <;> rfl) (A := x2.toInt) rfl (by omega) (by omega) (fun l2 => s_las (pc := 71) rw_9_71 hG rfl (n := 12) rfl (A := x2.toInt) rfl (by omega) (by omega) (fun M4 W3 => ?_))))))))
      have hG5 := g_wl hG W3
      have F6 := FR.wl F0 W3 (show 11 ≤ 15 ∧ 15 ≤ 16 by decide)
      refine s_inc (pc := 72) rw_9_72 (ls2 := fun v => [.ref 11, .ref p, .int v]) rfl rfl (fun _ => rfl) (A := x2.toInt) (B := 1) rfl rfl (by omega) (fun v7 e8 => to_go (pc := 75) rw_9_75 ?_)
      exact ih M4 v7 hG5 F6 (by omega) (by omega) (by omega)
set_option maxRecDepth 4000 in
set_option maxHeartbeats 0 in
theorem T_9_1 {X : mm_X} {d : Nat} {M : mm_M} {Q : Option Value → mm_M → Prop} {p : Nat} (hX : g_X X) (hd : 0 ≤ d) (hp : p = 49 ∨ p = 58) (h : ∀ (M1 : mm_M), g_G M1 → FR md_k M M1 → Q (none) M1) : ∀ nn9 : Nat, (∀ (N : mm_M) (x2 : Int32), g_G N → FR md_k M N → (0 ≤ x2.toInt) → (x2.toInt ≤ 240) → 240 - x2.toInt < (nn9 : Int) → mm_T X d 9 30 [.ref 11, .ref p, .int x2] [] N Q) := by
  intro nn9
  induction nn9 with
  | zero =>
    intro N x2 hG F0 g1 g2 hm
    exfalso; omega
  | succ nn9 ih =>
    intro N x2 hG F0 g1 g2 hm
    refine to_in (pc := 30) rw_9_30 rfl (to_an (pc := 31) rw_9_31 rfl (s_gR (pc := 32) rw_9_32 hG rfl (v := 14) rfl (s_len (pc := 35) rw_9_35 hG rfl rfl (n := 240) rfl (v := (240 : Int32)) rfl (b_cge (pc := 36) rw_9_36 (A := x2.toInt) (B := 240) rfl rfl (fun h9 => ?_) (fun h9 => ?_)))))
    · refine to_c (pc := 52) rw_9_52 (x := (0 : Int32)) rfl rfl (to_isn (pc := 53) rw_9_53 (ls2 := [.ref 11, .ref p, .int (0 : Int32)]) rfl rfl ?_)
      have k_10 : (0 : Int32).toInt = 0 := rfl
      exact (T_9_0 (p := p) hX hd hp h ((12 - (0 : Int32).toInt).toNat + 1)) N (0 : Int32) hG F0 (by omega) (by omega) (by omega)
    · refine to_an (pc := 39) rw_9_39 rfl (s_gR (pc := 40) rw_9_40 hG rfl (v := 14) rfl (to_in (pc := 43) rw_9_43 rfl (to_c (pc := 44) rw_9_44 (x := (-1 : Int32)) rfl rfl (s_ias (pc := 45) rw_9_45 hG rfl (n := 240) rfl (A := x2.toInt) rfl (by omega) (by omega) (fun M12 W11 => ?_)))))
      have hG13 := g_wf hG W11 rfl rfl (by decide)
      have F14 := FR.w F0 W11 (show 11 ≤ 14 ∧ 14 ≤ 16 by decide)
      refine s_inc (pc := 46) rw_9_46 (ls2 := fun v => [.ref 11, .ref p, .int v]) rfl rfl (fun _ => rfl) (A := x2.toInt) (B := 1) rfl rfl (by omega) (fun v15 e16 => to_go (pc := 49) rw_9_49 ?_)
      exact ih M12 v15 hG13 F14 (by omega) (by omega) (by omega)
set_option maxRecDepth 4000 in
set_option maxHeartbeats 0 in
theorem T_9_2 {X : mm_X} {d : Nat} {M : mm_M} {Q : Option Value → mm_M → Prop} {p : Nat} (hX : g_X X) (hd : 0 ≤ d) (hp : p = 49 ∨ p = 58) (h : ∀ (M1 : mm_M), g_G M1 → FR md_k M M1 → Q (none) M1) : ∀ nn9 : Nat, (∀ (N : mm_M) (x2 : Int32), g_G N → FR md_k M N → (0 ≤ x2.toInt) → (x2.toInt ≤ 30) → 30 - x2.toInt < (nn9 : Int) → mm_T X d 9 2 [.ref 11, .ref p, .int x2] [] N Q) := by
  intro nn9
  induction nn9 with
  | zero =>
    intro N x2 hG F0 g1 g2 hm
    exfalso; omega
  | succ nn9 ih =>
    intro N x2 hG F0 g1 g2 hm
    refine to_in (pc := 2) rw_9_2 rfl (to_c (pc := 3) rw_9_3 (x := (30 : Int32)) rfl rfl (b_cge (pc := 5) rw_9_5 (A := x2.toInt) (B := 30) rfl rfl (fun h17 => ?_) (fun h17 => ?_)))
    · refine to_c (pc := 28) rw_9_28 (x := (0 : Int32)) rfl rfl (to_isn (pc := 29) rw_9_29 (ls2 := [.ref 11, .ref p, .int (0 : Int32)]) rfl rfl ?_)
      have k_18 : (0 : Int32).toInt = 0 := rfl
      exact (T_9_1 (p := p) hX hd hp h ((240 - (0 : Int32).toInt).toNat + 1)) N (0 : Int32) hG F0 (by omega) (by omega) (by omega)
    · refine to_an (pc := 8) rw_9_8 rfl (s_gR (pc := 9) rw_9_9 hG rfl (v := 12) rfl (to_in (pc := 12) rw_9_12 rfl (s_cl (pc := 13) rw_9_13 rfl (fun l19 => s_las (pc := 14) rw_9_14 hG rfl (n := 30) rfl (A := x2.toInt) rfl (by omega) (by omega) (fun M21 W20 => ?_)))))
      have hG22 := g_wl hG W20
      have F23 := FR.wl F0 W20 (show 11 ≤ 12 ∧ 12 ≤ 16 by decide)
      refine to_an (pc := 15) rw_9_15 rfl (s_gR (pc := 16) rw_9_16 hG22 rfl (v := 13) rfl (to_in (pc := 19) rw_9_19 rfl (to_c (pc := 20) rw_9_20 (x := (0 : Int32)) rfl rfl (s_ias (pc := 21) rw_9_21 hG22 rfl (n := 30) rfl (A := x2.toInt) rfl (by omega) (by omega) (fun M25 W24 => ?_)))))
      have hG26 := g_wf hG22 W24 rfl rfl (by decide)
      have F27 := FR.w F23 W24 (show 11 ≤ 13 ∧ 13 ≤ 16 by decide)
      refine s_inc (pc := 22) rw_9_22 (ls2 := fun v => [.ref 11, .ref p, .int v]) rfl rfl (fun _ => rfl) (A := x2.toInt) (B := 1) rfl rfl (by omega) (fun v28 e29 => to_go (pc := 25) rw_9_25 ?_)
      exact ih M25 v28 hG26 F27 (by omega) (by omega) (by omega)
set_option maxRecDepth 4000 in
set_option maxHeartbeats 0 in
theorem C_9 {X : mm_X} {d : Nat} {M : mm_M} {Q : Option Value → mm_M → Prop} {p : Nat} (hX : g_X X) (hd : 0 ≤ d) (hG : g_G M) (hp : p = 49 ∨ p = 58) (h : ∀ (M1 : mm_M), g_G M1 → FR md_k M M1 → Q (none) M1) : mm_T X d 9 0 [.ref 11, .ref p, .null] [] M Q := by
  have F0 : FR md_k M M := FR.rf
  refine to_c (pc := 0) rw_9_0 (x := (0 : Int32)) rfl rfl (to_isn (pc := 1) rw_9_1 (ls2 := [.ref 11, .ref p, .int (0 : Int32)]) rfl rfl ?_)
  have k_30 : (0 : Int32).toInt = 0 := rfl
  exact (T_9_2 (p := p) hX hd hp h ((30 - (0 : Int32).toInt).toNat + 1)) M (0 : Int32) hG F0 (by omega) (by omega) (by omega)
set_option maxRecDepth 4000 in
set_option maxHeartbeats 0 in
theorem T_10_0 {X : mm_X} {d : Nat} {M : mm_M} {Q : Option Value → mm_M → Prop} {n : Int32} (hX : g_X X) (hd : 0 ≤ d) (q1 : 0 ≤ n.toInt) (q2 : n.toInt ≤ 150) (h : ∀ (M1 : mm_M), g_G M1 → FR md_k M M1 → Q (none) M1) : ∀ nn9 : Nat, (∀ (N : mm_M) (u2 : Value) (u3 : Value) (x4 : Int32), g_G N → FR md_k M N → (-1 ≤ x4.toInt) → (x4.toInt ≤ 149) → x4.toInt + 1 < (nn9 : Int) → mm_T X d 10 36 [.ref 11, .ref 6, u2, u3, .int x4] [] N Q) := by
  intro nn9
  induction nn9 with
  | zero =>
    intro N u2 u3 x4 hG F0 g1 g2 hm
    exfalso; omega
  | succ nn9 ih =>
    intro N u2 u3 x4 hG F0 g1 g2 hm
    refine to_i (pc := 36) rw_10_36 rfl (b_ilt (pc := 38) rw_10_38 (A := x4.toInt) rfl (fun h1 => ?_) (fun h1 => ?_))
    · refine to_rv (pc := 81) rw_10_81 ?_
      exact h N hG F0 
    · refine to_an (pc := 41) rw_10_41 rfl (s_gR (pc := 42) rw_10_42 hG rfl (v := 7) rfl (to_i (pc := 45) rw_10_45 rfl (s_ial (pc := 47) rw_10_47 hG rfl (n := 150) rfl rfl (A := x4.toInt) rfl (by omega) (by omega) (lo := 0) (hi := 5) rfl rfl (fun v2 w_3 _ _ => to_c (pc := 48) rw_10_48 (x := (5 : Int32)) rfl rfl (b_cne (pc := 49) rw_10_49 (A := v2.toInt) (B := 5) rfl rfl (fun h4 => ?_) (fun h4 => ?_))))))
      · refine s_inc (pc := 75) rw_10_75 (ls2 := fun v => [.ref 11, .ref 6, u2, u3, .int v]) rfl rfl (fun _ => rfl) (A := x4.toInt) (B := -1) rfl rfl (by omega) (fun v5 e6 => to_go (pc := 78) rw_10_78 ?_)
        exact ih N (u2) (u3) v5 hG F0 (by omega) (by omega) (by omega)
      · refine to_an (pc := 52) rw_10_52 rfl (s_gR (pc := 53) rw_10_53 hG rfl (v := 16) rfl (to_i (pc := 56) rw_10_56 rfl (s_bal (pc := 58) rw_10_58 hG rfl (n := 150) rfl (A := x4.toInt) rfl (by omega) (by omega) (lo := 0) (hi := 1) rfl rfl (fun v7 w_8 _ _ => b_ine (pc := 59) rw_10_59 (A := v7.toInt) rfl (fun h9 => ?_) (fun h9 => ?_)))))
        · refine s_inc (pc := 75) rw_10_75 (ls2 := fun v => [.ref 11, .ref 6, u2, u3, .int v]) rfl rfl (fun _ => rfl) (A := x4.toInt) (B := -1) rfl rfl (by omega) (fun v10 e11 => to_go (pc := 78) rw_10_78 ?_)
          exact ih N (u2) (u3) v10 hG F0 (by omega) (by omega) (by omega)
        · refine to_an (pc := 62) rw_10_62 rfl (s_gR (pc := 63) rw_10_63 hG rfl (v := 16) rfl (to_an (pc := 66) rw_10_66 rfl (s_gR (pc := 67) rw_10_67 hG rfl (v := 8) rfl (to_i (pc := 70) rw_10_70 rfl (s_ial (pc := 72) rw_10_72 hG rfl (n := 150) rfl rfl (A := x4.toInt) rfl (by omega) (by omega) (lo := 0) (hi := 149) rfl rfl (fun v12 w_13 _ _ => to_c (pc := 73) rw_10_73 (x := (1 : Int32)) rfl rfl (s_zas (pc := 74) rw_10_74 hG rfl (n := 150) rfl (A := v12.toInt) rfl (by omega) (by omega) (B := 1) rfl (by omega) (fun M15 W14 => ?_))))))))
          have hG16 := g_w hG W14 (A := 1) rfl (lo := 0) (hi := 1) rfl rfl (by omega) (by decide)
          have F17 := FR.w F0 W14 (show 11 ≤ 16 ∧ 16 ≤ 16 by decide)
          refine s_inc (pc := 75) rw_10_75 (ls2 := fun v => [.ref 11, .ref 6, u2, u3, .int v]) rfl rfl (fun _ => rfl) (A := x4.toInt) (B := -1) rfl rfl (by omega) (fun v18 e19 => to_go (pc := 78) rw_10_78 ?_)
          exact ih M15 (u2) (u3) v18 hG16 F17 (by omega) (by omega) (by omega)
set_option maxRecDepth 4000 in
set_option maxHeartbeats 0 in
theorem T_10_1 {X : mm_X} {d : Nat} {M : mm_M} {Q : Option Value → mm_M → Prop} {n : Int32} (hX : g_X X) (hd : 0 ≤ d) (q1 : 0 ≤ n.toInt) (q2 : n.toInt ≤ 150) (h : ∀ (M1 : mm_M), g_G M1 → FR md_k M M1 → Q (none) M1) : ∀ nn9 : Nat, (∀ (N : mm_M) (u2 : Value) (x3 : Int32) (x4 : Int32), g_G N → FR md_k M N → (0 ≤ x4.toInt) → (x4.toInt ≤ 150) → (0 ≤ x3.toInt) → (x3.toInt ≤ 150) → 150 - x4.toInt < (nn9 : Int) → mm_T X d 10 11 [.ref 11, .ref 6, u2, .int x3, .int x4] [] N Q) := by
  intro nn9
  induction nn9 with
  | zero =>
    intro N u2 x3 x4 hG F0 g1 g2 g3 g4 hm
    exfalso; omega
  | succ nn9 ih =>
    intro N u2 x3 x4 hG F0 g1 g2 g3 g4 hm
    refine to_i (pc := 11) rw_10_11 rfl (to_in (pc := 13) rw_10_13 rfl (b_cge (pc := 14) rw_10_14 (A := x4.toInt) (B := x3.toInt) rfl rfl (fun h20 => ?_) (fun h20 => ?_)))
    · refine to_in (pc := 31) rw_10_31 rfl (to_c (pc := 32) rw_10_32 (x := (1 : Int32)) rfl rfl (s_sub (pc := 33) rw_10_33 (A := x3.toInt) (B := 1) rfl rfl (by omega) (fun v21 e22 => to_is (pc := 34) rw_10_34 (ls2 := [.ref 11, .ref 6, u2, .int x3, .int v21]) rfl rfl ?_)))
      exact (T_10_0 (n := n) hX hd q1 q2 h ((v21.toInt + 1).toNat + 1)) N (u2) (.int x3) v21 hG F0 (by omega) (by omega) (by omega)
    · refine to_an (pc := 17) rw_10_17 rfl (s_gR (pc := 18) rw_10_18 hG rfl (v := 16) rfl (to_i (pc := 21) rw_10_21 rfl (to_c (pc := 23) rw_10_23 (x := (0 : Int32)) rfl rfl (s_zas (pc := 24) rw_10_24 hG rfl (n := 150) rfl (A := x4.toInt) rfl (by omega) (by omega) (B := 0) rfl (by omega) (fun M24 W23 => ?_)))))
      have hG25 := g_w hG W23 (A := 0) rfl (lo := 0) (hi := 1) rfl rfl (by omega) (by decide)
      have F26 := FR.w F0 W23 (show 11 ≤ 16 ∧ 16 ≤ 16 by decide)
      refine s_inc (pc := 25) rw_10_25 (ls2 := fun v => [.ref 11, .ref 6, u2, .int x3, .int v]) rfl rfl (fun _ => rfl) (A := x4.toInt) (B := 1) rfl rfl (by omega) (fun v27 e28 => to_go (pc := 28) rw_10_28 ?_)
      exact ih M24 (u2) x3 v27 hG25 F26 (by omega) (by omega) (by omega) (by omega) (by omega)
set_option maxRecDepth 4000 in
set_option maxHeartbeats 0 in
theorem C_10 {X : mm_X} {d : Nat} {M : mm_M} {Q : Option Value → mm_M → Prop} {n : Int32} (hX : g_X X) (hd : 0 ≤ d) (hG : g_G M) (q1 : 0 ≤ n.toInt) (q2 : n.toInt ≤ 150) (h : ∀ (M1 : mm_M), g_G M1 → FR md_k M M1 → Q (none) M1) : mm_T X d 10 0 [.ref 11, .ref 6, .int n, .null, .null] [] M Q := by
  have F0 : FR md_k M M := FR.rf
  refine to_in (pc := 0) rw_10_0 rfl (to_c (pc := 1) rw_10_1 (x := (150 : Int32)) rfl rfl (s_min (pc := 4) rw_10_4 rfl (A := n.toInt) (B := 150) rfl rfl (fun v29 _ _ _ => to_isn (pc := 7) rw_10_7 (ls2 := [.ref 11, .ref 6, .int n, .int v29, .null]) rfl rfl (to_c (pc := 8) rw_10_8 (x := (0 : Int32)) rfl rfl (to_is (pc := 9) rw_10_9 (ls2 := [.ref 11, .ref 6, .int n, .int v29, .int (0 : Int32)]) rfl rfl ?_)))))
  have k_30 : (0 : Int32).toInt = 0 := rfl
  exact (T_10_1 (n := n) hX hd q1 q2 h ((150 - (0 : Int32).toInt).toNat + 1)) M (.int n) v29 (0 : Int32) hG F0 (by omega) (by omega) (by omega) (by omega) (by omega)
set_option maxRecDepth 4000 in
set_option maxHeartbeats 0 in
theorem C_11 {X : mm_X} {d : Nat} {M : mm_M} {Q : Option Value → mm_M → Prop} {p : Nat} {n : Int32} (hX : g_X X) (hd : 3 ≤ d) (hG : g_G M) (hp : p = 49 ∨ p = 58) (q1 : 0 ≤ n.toInt) (q2 : n.toInt ≤ 149) (q3 : NI M) (h : ∀ (M1 : mm_M), g_G M1 → FR md_k M M1 → Q (none) M1) : mm_T X d 11 0 [.ref 11, .ref p, .ref 6, .int n, .null, .null] [] M Q := by
  have F0 : FR md_k M M := FR.rf
  refine to_an (pc := 0) rw_11_0 rfl (s_gR (pc := 1) rw_11_1 hG rfl (v := 8) rfl (to_in (pc := 4) rw_11_4 rfl (s_ial (pc := 5) rw_11_5 hG rfl (n := 150) rfl rfl (A := n.toInt) rfl (by omega) (by omega) (lo := 0) (hi := 149) rfl rfl (fun v1 w_2 _ _ => ?_))))
  have j_3 := NI_u q3 (n.toInt).toNat
  have t_4 := congrArg Int32.toInt w_2
  refine to_is (pc := 6) rw_11_6 (ls2 := [.ref 11, .ref p, .ref 6, .int n, .int v1, .null]) rfl rfl (to_an (pc := 8) rw_11_8 rfl (s_gR (pc := 9) rw_11_9 hG rfl (v := 9) rfl (to_in (pc := 12) rw_11_12 rfl (s_ial (pc := 13) rw_11_13 hG rfl (n := 150) rfl rfl (A := n.toInt) rfl (by omega) (by omega) (lo := -2147483648) (hi := 2147483647) rfl rfl (fun v5 w_6 _ _ => ?_)))))
  have t_7 := congrArg Int32.toInt w_6
  refine to_is (pc := 14) rw_11_14 (ls2 := [.ref 11, .ref p, .ref 6, .int n, .int v1, .int v5]) rfl rfl (to_an (pc := 16) rw_11_16 rfl (s_gR (pc := 17) rw_11_17 hG rfl (v := 7) rfl (to_in (pc := 20) rw_11_20 rfl (s_ial (pc := 21) rw_11_21 hG rfl (n := 150) rfl rfl (A := n.toInt) rfl (by omega) (by omega) (lo := 0) (hi := 5) rfl rfl (fun v8 w_9 _ _ => ?_)))))
  have t_10 := congrArg Int32.toInt w_9
  rcases (show v8.toInt = 0 ∨ v8.toInt = 1 ∨ v8.toInt = 2 ∨ v8.toInt = 3 ∨ v8.toInt = 4 ∨ (v8.toInt < 0 ∨ 4 < v8.toInt) by omega) with h11 | h11 | h11 | h11 | h11 | h11
  · refine s_sw (pc := 22) rw_11_22 (A := v8.toInt) (k := 0) (t := 56) rfl h11 (by decide) rfl (to_an (pc := 56) rw_11_56 rfl (s_gR (pc := 57) rw_11_57 hG rfl (v := 14) rfl (to_i (pc := 60) rw_11_60 rfl (to_c (pc := 62) rw_11_62 (x := (8 : Int32)) rfl rfl (s_mul (pc := 64) rw_11_64 (A := v1.toInt) (B := 8) rfl rfl (by omega) (fun v12 e13 => to_i (pc := 65) rw_11_65 rfl (s_addo (pc := 67) rw_11_67 (A := v12.toInt) (B := v5.toInt) rfl rfl (fun v14 e15 => to_an (pc := 68) rw_11_68 rfl (s_gR (pc := 69) rw_11_69 hG rfl (v := 10) rfl (to_in (pc := 72) rw_11_72 rfl (s_ial (pc := 73) rw_11_73 hG rfl (n := 150) rfl rfl (A := n.toInt) rfl (by omega) (by omega) (lo := -2147483648) (hi := 2147483647) rfl rfl (fun v16 w_17 _ _ => ?_))))))))))))
    refine s_ias (pc := 74) rw_11_74 hG rfl (n := 240) rfl (A := v14.toInt) rfl (by omega) (by omega) (fun M19 W18 => ?_)
    have hG20 := g_wf hG W18 rfl rfl (by decide)
    have F21 := FR.w F0 W18 (show 11 ≤ 14 ∧ 14 ≤ 16 by decide)
    refine to_an (pc := 75) rw_11_75 rfl (s_gR (pc := 76) rw_11_76 hG20 rfl (v := 12) rfl (to_i (pc := 79) rw_11_79 rfl (to_dup2 (pc := 81) rw_11_81 (s_lal (pc := 82) rw_11_82 hG20 rfl (n := 30) rfl (A := v1.toInt) rfl (by omega) (by omega) (fun l22 => to_an (pc := 83) rw_11_83 rfl (to_i (pc := 84) rw_11_84 rfl (to_an (pc := 86) rw_11_86 rfl (s_gR (pc := 87) rw_11_87 hG20 rfl (v := 10) rfl (to_in (pc := 90) rw_11_90 rfl (s_ialk (pc := 91) rw_11_91 hG20 rfl (n := 150) rfl rfl (A := n.toInt) rfl (by omega) (by omega) (v := v16) (W_n W18 (by omega) w_17) (s_v (pc := 92) rw_11_92 (dp0 hd (by decide)) (ls0 := [.ref p, .int v5, .int v16, .null, .null]) rfl (Nat.le_of_ble_eq_true rfl) (Nat.le_of_ble_eq_true rfl) rfl (to_rc rfl rfl rfl (g_o hG20 (by rcases hp with rfl | rfl <;> rfl))) rfl ?_)))))))))))
    refine C_49 hX (dp1 hd (by decide)) hG20 hp (p := p) (f := v5) (v := v16) (fun r25 M28 hG27 F26 => ?_)
    have F29 := FR.c F21 F26 tg_123
    refine s_anyL (pc := 95) rw_11_95 (fun _ _ => rfl) (fun l30 => s_las (pc := 96) rw_11_96 hG27 rfl (n := 30) rfl (A := v1.toInt) rfl (by omega) (by omega) (fun M32 W31 => ?_))
    have hG33 := g_wl hG27 W31
    have F34 := FR.wl F29 W31 (show 11 ≤ 12 ∧ 12 ≤ 16 by decide)
    refine to_go (pc := 97) rw_11_97 (to_rv (pc := 198) rw_11_198 ?_)
    exact h M32 hG33 F34 
  · refine s_sw (pc := 22) rw_11_22 (A := v8.toInt) (k := 1) (t := 100) rfl h11 (by decide) rfl (to_an (pc := 100) rw_11_100 rfl (s_gR (pc := 101) rw_11_101 hG rfl (v := 13) rfl (to_i (pc := 104) rw_11_104 rfl (to_dup2 (pc := 106) rw_11_106 (s_ial (pc := 107) rw_11_107 hG rfl (n := 30) rfl rfl (A := v1.toInt) rfl (by omega) (by omega) (lo := -2147483648) (hi := 2147483647) rfl rfl (fun v35 w_36 _ _ => to_c (pc := 108) rw_11_108 (x := (1 : Int32)) rfl rfl (to_i (pc := 109) rw_11_109 rfl (s_any (pc := 111) rw_11_111 (fun _ _ => rfl) (fun v37 => s_any (pc := 112) rw_11_112 (fun _ _ => rfl) (fun v38 => s_ias (pc := 113) rw_11_113 hG rfl (n := 30) rfl (A := v1.toInt) rfl (by omega) (by omega) (fun M40 W39 => ?_)))))))))))
    have hG41 := g_wf hG W39 rfl rfl (by decide)
    have F42 := FR.w F0 W39 (show 11 ≤ 13 ∧ 13 ≤ 16 by decide)
    refine to_an (pc := 114) rw_11_114 rfl (s_gR (pc := 115) rw_11_115 hG41 rfl (v := 12) rfl (to_i (pc := 118) rw_11_118 rfl (to_dup2 (pc := 120) rw_11_120 (s_lal (pc := 121) rw_11_121 hG41 rfl (n := 30) rfl (A := v1.toInt) rfl (by omega) (by omega) (fun l43 => to_an (pc := 122) rw_11_122 rfl (s_gR (pc := 123) rw_11_123 hG41 rfl (v := 15) rfl (to_i (pc := 126) rw_11_126 rfl (s_lal (pc := 128) rw_11_128 hG41 rfl (n := 12) rfl (A := v5.toInt) rfl (by omega) (by omega) (fun l44 => s_anyL (pc := 129) rw_11_129 (fun _ _ => rfl) (fun l45 => s_las (pc := 130) rw_11_130 hG41 rfl (n := 30) rfl (A := v1.toInt) rfl (by omega) (by omega) (fun M47 W46 => ?_)))))))))))
    have hG48 := g_wl hG41 W46
    have F49 := FR.wl F42 W46 (show 11 ≤ 12 ∧ 12 ≤ 16 by decide)
    refine to_go (pc := 131) rw_11_131 (to_rv (pc := 198) rw_11_198 ?_)
    exact h M47 hG48 F49 
  · refine s_sw (pc := 22) rw_11_22 (A := v8.toInt) (k := 2) (t := 134) rfl h11 (by decide) rfl (to_an (pc := 134) rw_11_134 rfl (s_gR (pc := 135) rw_11_135 hG rfl (v := 12) rfl (to_i (pc := 138) rw_11_138 rfl (to_dup2 (pc := 140) rw_11_140 (s_lal (pc := 141) rw_11_141 hG rfl (n := 30) rfl (A := v1.toInt) rfl (by omega) (by omega) (fun l50 => s_cl (pc := 142) rw_11_142 rfl (fun l51 => to_i (pc := 143) rw_11_143 rfl (s_anyS (pc := 145) rw_11_145 (fun _ _ => rfl) (fun l52 => s_anyL (pc := 146) rw_11_146 (fun _ _ => rfl) (fun l53 => s_las (pc := 147) rw_11_147 hG rfl (n := 30) rfl (A := v1.toInt) rfl (by omega) (by omega) (fun M55 W54 => ?_)))))))))))
    have hG56 := g_wl hG W54
    have F57 := FR.wl F0 W54 (show 11 ≤ 12 ∧ 12 ≤ 16 by decide)
    refine to_go (pc := 148) rw_11_148 (to_rv (pc := 198) rw_11_198 ?_)
    exact h M55 hG56 F57 
  · refine s_sw (pc := 22) rw_11_22 (A := v8.toInt) (k := 3) (t := 151) rfl h11 (by decide) rfl (to_an (pc := 151) rw_11_151 rfl (s_gR (pc := 152) rw_11_152 hG rfl (v := 12) rfl (to_i (pc := 155) rw_11_155 rfl (to_dup2 (pc := 157) rw_11_157 (s_lal (pc := 158) rw_11_158 hG rfl (n := 30) rfl (A := v1.toInt) rfl (by omega) (by omega) (fun l58 => s_cl (pc := 159) rw_11_159 rfl (fun l59 => to_i (pc := 160) rw_11_160 rfl (s_anyS (pc := 162) rw_11_162 (fun _ _ => rfl) (fun l60 => s_cl (pc := 163) rw_11_163 rfl (fun l61 => s_anyL (pc := 166) rw_11_166 (fun _ _ => rfl) (fun l62 => s_anyL (pc := 167) rw_11_167 (fun _ _ => rfl) (fun l63 => ?_))))))))))))
    refine s_las (pc := 168) rw_11_168 hG rfl (n := 30) rfl (A := v1.toInt) rfl (by omega) (by omega) (fun M65 W64 => ?_)
    have hG66 := g_wl hG W64
    have F67 := FR.wl F0 W64 (show 11 ≤ 12 ∧ 12 ≤ 16 by decide)
    refine to_go (pc := 169) rw_11_169 (to_rv (pc := 198) rw_11_198 ?_)
    exact h M65 hG66 F67 
  · refine s_sw (pc := 22) rw_11_22 (A := v8.toInt) (k := 4) (t := 172) rfl h11 (by decide) rfl (to_an (pc := 172) rw_11_172 rfl (s_gR (pc := 173) rw_11_173 hG rfl (v := 15) rfl (to_i (pc := 176) rw_11_176 rfl (to_i (pc := 178) rw_11_178 rfl (s_i2l (pc := 180) rw_11_180 (fun l68 e69 => to_an (pc := 181) rw_11_181 rfl (s_gR (pc := 182) rw_11_182 hG (by rcases hp with rfl | rfl <;> rfl) (v := (p + 3)) (by rcases hp with rfl | rfl <;> rfl) (to_an (pc := 185) rw_11_185 rfl (s_gR (pc := 186) rw_11_186 hG (by rcases hp with rfl | rfl <;> rfl) (v := (p + 7)) (by rcases hp with rfl | rfl <;> rfl) (to_i (pc := 189) rw_11_189 rfl (s_ial (pc := 191) rw_11_191 hG (by rcases hp with rfl | rfl <;> rfl) (n := 12) (by rcases hp with rfl | rfl <;> rfl) (by rcases hp with rfl | rfl <;> rfl) (A := v1.toInt) rfl (by omega) (by omega) (lo := 0) (hi := 7) (by rcases hp with rfl | rfl <;> rfl) (by rcases hp with rfl | rfl <;> rfl) (fun v70 w_71 _ _ => ?_))))))))))))
    refine s_ial (pc := 192) rw_11_192 hG (by rcases hp with rfl | rfl <;> rfl) (n := 8) (by rcases hp with rfl | rfl <;> rfl) (by rcases hp with rfl | rfl <;> rfl) (A := v70.toInt) rfl (by omega) (by omega) (lo := 0) (hi := 59) (by rcases hp with rfl | rfl <;> rfl) (by rcases hp with rfl | rfl <;> rfl) (fun v72 w_73 _ _ => s_anyS (pc := 193) rw_11_193 (fun _ _ => rfl) (fun l74 => s_las (pc := 194) rw_11_194 hG rfl (n := 12) rfl (A := v1.toInt) rfl (by omega) (by omega) (fun M76 W75 => ?_)))
    have hG77 := g_wl hG W75
    have F78 := FR.wl F0 W75 (show 11 ≤ 15 ∧ 15 ≤ 16 by decide)
    refine to_go (pc := 195) rw_11_195 (to_rv (pc := 198) rw_11_198 ?_)
    exact h M76 hG77 F78 
  · refine s_swd (pc := 22) rw_11_22 (A := v8.toInt) rfl h11 (to_rv (pc := 198) rw_11_198 ?_)
    exact h M hG F0 
set_option maxRecDepth 4000 in
set_option maxHeartbeats 0 in
theorem T_8_0 {X : mm_X} {d : Nat} {M : mm_M} {Q : Option Value → mm_M → Prop} {p : Nat} {n : Int32} (hX : g_X X) (hd : 4 ≤ d) (hp : p = 49 ∨ p = 58) (q1 : 0 ≤ n.toInt) (q2 : n.toInt ≤ 150) (q3 : NI M) (h : ∀ (M1 : mm_M), g_G M1 → FR md_k M M1 → Q (none) M1) : ∀ nn9 : Nat, (∀ (N : mm_M) (x4 : Int32), g_G N → FR md_k M N → (0 ≤ x4.toInt) → (x4.toInt ≤ 150) → (0 ≤ n.toInt) → (n.toInt ≤ 150) → (NI N) → 150 - x4.toInt < (nn9 : Int) → mm_T X d 8 14 [.ref 11, .ref p, .ref 6, .int n, .int x4] [] N Q) := by
  intro nn9
  induction nn9 with
  | zero =>
    intro N x4 hG F0 g1 g2 g3 g4 g5 hm
    exfalso; omega
  | succ nn9 ih =>
    intro N x4 hG F0 g1 g2 g3 g4 g5 hm
    refine to_i (pc := 14) rw_8_14 rfl (to_in (pc := 16) rw_8_16 rfl (b_cge (pc := 17) rw_8_17 (A := x4.toInt) (B := n.toInt) rfl rfl (fun h1 => ?_) (fun h1 => ?_)))
    · refine to_rv (pc := 52) rw_8_52 ?_
      exact h N hG F0 
    · refine to_i (pc := 20) rw_8_20 rfl (to_c (pc := 22) rw_8_22 (x := (150 : Int32)) rfl rfl (b_cge_f (pc := 25) rw_8_25 (A := x4.toInt) (B := 150) rfl rfl (by omega) (to_an (pc := 28) rw_8_28 rfl (s_gR (pc := 29) rw_8_29 hG rfl (v := 16) rfl (to_i (pc := 32) rw_8_32 rfl (s_bal (pc := 34) rw_8_34 hG rfl (n := 150) rfl (A := x4.toInt) rfl (by omega) (by omega) (lo := 0) (hi := 1) rfl rfl (fun v2 w_3 _ _ => b_ine (pc := 35) rw_8_35 (A := v2.toInt) rfl (fun h4 => ?_) (fun h4 => ?_))))))))
      · refine s_inc (pc := 46) rw_8_46 (ls2 := fun v => [.ref 11, .ref p, .ref 6, .int n, .int v]) rfl rfl (fun _ => rfl) (A := x4.toInt) (B := 1) rfl rfl (by omega) (fun v5 e6 => to_go (pc := 49) rw_8_49 ?_)
        exact ih N v5 hG F0 (by omega) (by omega) (by omega) (by omega) g5 (by omega)
      · refine to_an (pc := 38) rw_8_38 rfl (to_an (pc := 39) rw_8_39 rfl (to_an (pc := 40) rw_8_40 rfl (to_i (pc := 41) rw_8_41 rfl (s_v (pc := 43) rw_8_43 (dp0 hd (by decide)) (ls0 := [.ref 11, .ref p, .ref 6, .int x4, .null, .null]) rfl (Nat.le_of_ble_eq_true rfl) (Nat.le_of_ble_eq_true rfl) rfl (to_rc rfl rfl rfl (g_o hG rfl)) rfl (C_11 hX (dp1 hd (by decide)) hG hp (by omega) (by omega) g5 (p := p) (n := x4) (fun M9 hG8 F7 => ?_))))))
        have F10 := FR.c F0 F7 tg_124
        refine s_inc (pc := 46) rw_8_46 (ls2 := fun v => [.ref 11, .ref p, .ref 6, .int n, .int v]) rfl rfl (fun _ => rfl) (A := x4.toInt) (B := 1) rfl rfl (by omega) (fun v11 e12 => to_go (pc := 49) rw_8_49 ?_)
        have j_13 := (NI_f (tg_122 F7) g5)
        exact ih M9 v11 hG8 F10 (by omega) (by omega) (by omega) (by omega) j_13 (by omega)
set_option maxRecDepth 4000 in
set_option maxHeartbeats 0 in
theorem C_8 {X : mm_X} {d : Nat} {M : mm_M} {Q : Option Value → mm_M → Prop} {p : Nat} {n : Int32} (hX : g_X X) (hd : 4 ≤ d) (hG : g_G M) (hp : p = 49 ∨ p = 58) (q1 : 0 ≤ n.toInt) (q2 : n.toInt ≤ 150) (q3 : NI M) (h : ∀ (M1 : mm_M), g_G M1 → FR md_k M M1 → Q (none) M1) : mm_T X d 8 0 [.ref 11, .ref p, .ref 6, .int n, .null] [] M Q := by
  have F0 : FR md_k M M := FR.rf
  refine to_an (pc := 0) rw_8_0 rfl (to_an (pc := 1) rw_8_1 rfl (s_v (pc := 2) rw_8_2 (dp0 hd (by decide)) (ls0 := [.ref 11, .ref p, .null]) rfl (Nat.le_of_ble_eq_true rfl) (Nat.le_of_ble_eq_true rfl) rfl (to_rc rfl rfl rfl (g_o hG rfl)) rfl (C_9 hX (dp1 hd (by decide)) hG hp (p := p) (fun M16 hG15 F14 => ?_))))
  have F17 := FR.c F0 F14 tg_124
  refine to_an (pc := 5) rw_8_5 rfl (to_an (pc := 6) rw_8_6 rfl (to_in (pc := 7) rw_8_7 rfl (s_v (pc := 8) rw_8_8 (dp0 hd (by decide)) (ls0 := [.ref 11, .ref 6, .int n, .null, .null]) rfl (Nat.le_of_ble_eq_true rfl) (Nat.le_of_ble_eq_true rfl) rfl (to_rc rfl rfl rfl (g_o hG15 rfl)) rfl (C_10 hX (dp1 hd (by decide)) hG15 (by omega) (by omega) (n := n) (fun M20 hG19 F18 => ?_)))))
  have F21 := FR.c F17 F18 tg_124
  refine to_c (pc := 11) rw_8_11 (x := (0 : Int32)) rfl rfl (to_is (pc := 12) rw_8_12 (ls2 := [.ref 11, .ref p, .ref 6, .int n, .int (0 : Int32)]) rfl rfl ?_)
  have k_22 : (0 : Int32).toInt = 0 := rfl
  have j_23 := (NI_f (tg_122 F18) (NI_f (tg_122 F14) q3))
  exact (T_8_0 (p := p) (n := n) hX hd hp q1 q2 q3 h ((150 - (0 : Int32).toInt).toNat + 1)) M20 (0 : Int32) hG19 F21 (by omega) (by omega) (by omega) (by omega) j_23 (by omega)
set_option maxRecDepth 4000 in
set_option maxHeartbeats 0 in
theorem T_22_0 {X : mm_X} {d : Nat} {M : mm_M} {Q : Option Value → mm_M → Prop} (hX : g_X X) (hd : 0 ≤ d) (h : ∀ (M1 : mm_M), g_G M1 → FR md_c M M1 → ((M1.2.1 17 4).toInt = 0) → Q (none) M1) : ∀ nn9 : Nat, (∀ (N : mm_M) (x1 : Int32), g_G N → FR md_c M N → (0 ≤ x1.toInt) → (x1.toInt ≤ 6) → ((N.2.1 17 4).toInt = 0) → 6 - x1.toInt < (nn9 : Int) → mm_T X d 22 7 [.ref 17, .int x1] [] N Q) := by
  intro nn9
  induction nn9 with
  | zero =>
    intro N x1 hG F0 g1 g2 g3 hm
    exfalso; omega
  | succ nn9 ih =>
    intro N x1 hG F0 g1 g2 g3 hm
    refine to_in (pc := 7) rw_22_7 rfl (to_c (pc := 8) rw_22_8 (x := (6 : Int32)) rfl rfl (b_cge (pc := 10) rw_22_10 (A := x1.toInt) (B := 6) rfl rfl (fun h1 => ?_) (fun h1 => ?_)))
    · refine to_rv (pc := 26) rw_22_26 ?_
      exact h N hG F0 (by omega)
    · refine to_an (pc := 13) rw_22_13 rfl (s_gR (pc := 14) rw_22_14 hG rfl (v := 25) rfl (to_in (pc := 17) rw_22_17 rfl (to_c (pc := 18) rw_22_18 (x := (0 : Int32)) rfl rfl (s_ias (pc := 19) rw_22_19 hG rfl (n := 6) rfl (A := x1.toInt) rfl (by omega) (by omega) (fun M3 W2 => ?_)))))
      have hG4 := g_w hG W2 (A := 0) rfl (lo := 0) (hi := 30) rfl rfl (by omega) (by decide)
      have F5 := FR.w F0 W2 (show 17 ≤ 25 ∧ 25 ≤ 27 by decide)
      refine s_inc (pc := 20) rw_22_20 (ls2 := fun v => [.ref 17, .int v]) rfl rfl (fun _ => rfl) (A := x1.toInt) (B := 1) rfl rfl (by omega) (fun v6 e7 => to_go (pc := 23) rw_22_23 ?_)
      have c_8 : M3.2.1 17 4 = (N.2.1 17 4) := (W_n W2 (fun z => absurd z.1 (by decide)) rfl)
      have t_9 : (M3.2.1 17 4).toInt = (N.2.1 17 4).toInt := congrArg Int32.toInt c_8
      exact ih M3 v6 hG4 F5 (by omega) (by omega) (by omega) (by omega)
set_option maxRecDepth 4000 in
set_option maxHeartbeats 0 in
theorem C_22 {X : mm_X} {d : Nat} {M : mm_M} {Q : Option Value → mm_M → Prop} (hX : g_X X) (hd : 0 ≤ d) (hG : g_G M) (h : ∀ (M1 : mm_M), g_G M1 → FR md_c M M1 → ((M1.2.1 17 4).toInt = 0) → Q (none) M1) : mm_T X d 22 0 [.ref 17, .null] [] M Q := by
  have F0 : FR md_c M M := FR.rf
  refine to_an (pc := 0) rw_22_0 rfl (to_c (pc := 1) rw_22_1 (x := (0 : Int32)) rfl rfl (s_pI (pc := 2) rw_22_2 hG rfl (fun M11 W10 => ?_)))
  have hG12 := g_wf hG W10 rfl rfl (by decide)
  have F13 := FR.w F0 W10 (show 17 ≤ 17 ∧ 17 ≤ 27 by decide)
  refine to_c (pc := 5) rw_22_5 (x := (0 : Int32)) rfl rfl (to_isn (pc := 6) rw_22_6 (ls2 := [.ref 17, .int (0 : Int32)]) rfl rfl ?_)
  have k_14 : (0 : Int32).toInt = 0 := rfl
  have c_15 : M11.2.1 17 4 = (0 : Int32) := (W_e W10)
  have t_16 : (M11.2.1 17 4).toInt = (0 : Int32).toInt := congrArg Int32.toInt c_15
  exact (T_22_0 hX hd  h ((6 - (0 : Int32).toInt).toNat + 1)) M11 (0 : Int32) hG12 F13 (by omega) (by omega) (by omega) (by omega)
set_option maxRecDepth 4000 in
set_option maxHeartbeats 0 in
theorem C_23 {X : mm_X} {d : Nat} {M : mm_M} {Q : Option Value → mm_M → Prop} {p : Int32} {c : Int32} (hX : g_X X) (hd : 0 ≤ d) (hG : g_G M) (q1 : 0 ≤ p.toInt) (q2 : p.toInt ≤ 5) (q3 : 0 ≤ c.toInt) (q4 : c.toInt ≤ 29) (h : ∀ (M1 : mm_M), g_G M1 → FR md_c8 M M1 → Q (none) M1) : mm_T X d 23 0 [.ref 17, .int p, .int c] [] M Q := by
  have F0 : FR md_c8 M M := FR.rf
  refine to_an (pc := 0) rw_23_0 rfl (s_gR (pc := 1) rw_23_1 hG rfl (v := 25) rfl (to_in (pc := 4) rw_23_4 rfl (s_ial (pc := 5) rw_23_5 hG rfl (n := 6) rfl rfl (A := p.toInt) rfl (by omega) (by omega) (lo := 0) (hi := 30) rfl rfl (fun v1 w_2 _ _ => to_c (pc := 6) rw_23_6 (x := (30 : Int32)) rfl rfl (b_cge (pc := 8) rw_23_8 (A := v1.toInt) (B := 30) rfl rfl (fun h3 => ?_) (fun h3 => ?_))))))
  · refine to_rv (pc := 35) rw_23_35 ?_
    exact h M hG F0 
  · refine to_an (pc := 11) rw_23_11 rfl (s_gR (pc := 12) rw_23_12 hG rfl (v := 18) rfl (to_in (pc := 15) rw_23_15 rfl (s_aal (pc := 16) rw_23_16 hG (A := p.toInt) rfl (by omega) (by omega) (fun r4 hr4 => to_an (pc := 17) rw_23_17 rfl (s_gR (pc := 18) rw_23_18 hG rfl (v := 25) rfl (to_in (pc := 21) rw_23_21 rfl (s_ialk (pc := 22) rw_23_22 hG rfl (n := 6) rfl rfl (A := p.toInt) rfl (by omega) (by omega) (v := v1) w_2 (to_in (pc := 23) rw_23_23 rfl (s_ias (pc := 24) rw_23_24 hG (by rcases rr_6 hr4 with z | z | z | z | z | z <;> rw [z] <;> rfl) (n := 30) (by rcases rr_6 hr4 with z | z | z | z | z | z <;> rw [z] <;> rfl) (A := v1.toInt) rfl (by omega) (by omega) (fun M8 W7 => ?_))))))))))
    have hG9 := g_w hG W7 (A := c.toInt) rfl (lo := 0) (hi := 29) (by rcases rr_6 hr4 with z | z | z | z | z | z <;> rw [z] <;> rfl) (by rcases rr_6 hr4 with z | z | z | z | z | z <;> rw [z] <;> rfl) (by omega) (by omega)
    have F10 := FR.w F0 W7 (show 18 ≤ r4 ∧ r4 ≤ 27 by omega)
    refine to_an (pc := 25) rw_23_25 rfl (s_gR (pc := 26) rw_23_26 hG9 rfl (v := 25) rfl (to_in (pc := 29) rw_23_29 rfl (to_dup2 (pc := 30) rw_23_30 (s_ialk (pc := 31) rw_23_31 hG9 rfl (n := 6) rfl rfl (A := p.toInt) rfl (by omega) (by omega) (v := v1) (W_n W7 (by omega) w_2) (to_c (pc := 32) rw_23_32 (x := (1 : Int32)) rfl rfl (s_add (pc := 33) rw_23_33 (A := v1.toInt) (B := 1) rfl rfl (by omega) (fun v13 e14 => s_ias (pc := 34) rw_23_34 hG9 rfl (n := 6) rfl (A := p.toInt) rfl (by omega) (by omega) (fun M16 W15 => ?_))))))))
    have hG17 := g_w hG9 W15 (A := v13.toInt) rfl (lo := 0) (hi := 30) rfl rfl (by omega) (by decide)
    have F18 := FR.w F10 W15 (show 18 ≤ 25 ∧ 25 ≤ 27 by decide)
    refine to_rv (pc := 35) rw_23_35 ?_
    exact h M16 hG17 F18 
set_option maxRecDepth 4000 in
set_option maxHeartbeats 0 in
theorem T_25_0 {X : mm_X} {d : Nat} {M : mm_M} {Q : Option Value → mm_M → Prop} {x : Int64} {y : Int32} (hX : g_X X) (hd : 0 ≤ d) (q1 : y.toInt ≤ 60) (h : ∀ (r : Int64) (M1 : mm_M), g_G M1 → FR md_0 M M1 → Q (some (.long r)) M1) : ∀ nn9 : Nat, (∀ (N : mm_M) (y3 : Int64) (x5 : Int32), g_G N → FR md_0 M N → (0 ≤ x5.toInt) → (x5.toInt ≤ 60) → (y.toInt ≤ 60) → 60 - x5.toInt < (nn9 : Int) → mm_T X d 25 5 [.long x, .null, .int y, .long y3, .null, .int x5] [] N Q) := by
  intro nn9
  induction nn9 with
  | zero =>
    intro N y3 x5 hG F0 g1 g2 g3 hm
    exfalso; omega
  | succ nn9 ih =>
    intro N y3 x5 hG F0 g1 g2 g3 hm
    refine to_i (pc := 5) rw_25_5 rfl (to_in (pc := 7) rw_25_7 rfl (b_cge (pc := 8) rw_25_8 (A := x5.toInt) (B := y.toInt) rfl rfl (fun h1 => ?_) (fun h1 => ?_)))
    · refine to_ln (pc := 28) rw_25_28 rfl rfl rfl (to_rl (pc := 29) rw_25_29 ?_)
      exact h y3 N hG F0 
    · refine to_ln (pc := 11) rw_25_11 rfl rfl rfl (to_c (pc := 12) rw_25_12 (x := (1 : Int32)) rfl rfl (s_anyS (pc := 13) rw_25_13 (fun _ _ => rfl) (fun l2 => to_ln (pc := 14) rw_25_14 rfl rfl rfl (to_i (pc := 15) rw_25_15 rfl (s_anyS (pc := 17) rw_25_17 (fun _ _ => rfl) (fun l3 => s_cl (pc := 18) rw_25_18 rfl (fun l4 => s_anyL (pc := 19) rw_25_19 (fun _ _ => rfl) (fun l5 => s_anyL (pc := 20) rw_25_20 (fun _ _ => rfl) (fun l6 => to_lsn (pc := 21) rw_25_21 (ls2 := [.long x, .null, .int y, .long l6, .null, .int x5]) rfl rfl (s_inc (pc := 22) rw_25_22 (ls2 := fun v => [.long x, .null, .int y, .long l6, .null, .int v]) rfl rfl (fun _ => rfl) (A := x5.toInt) (B := 1) rfl rfl (by omega) (fun v7 e8 => to_go (pc := 25) rw_25_25 ?_)))))))))))
      exact ih N l6 v7 hG F0 (by omega) (by omega) (by omega) (by omega)
set_option maxRecDepth 4000 in
set_option maxHeartbeats 0 in
theorem C_25 {X : mm_X} {d : Nat} {M : mm_M} {Q : Option Value → mm_M → Prop} {x : Int64} {y : Int32} (hX : g_X X) (hd : 0 ≤ d) (hG : g_G M) (q1 : y.toInt ≤ 60) (h : ∀ (r : Int64) (M1 : mm_M), g_G M1 → FR md_0 M M1 → Q (some (.long r)) M1) : mm_T X d 25 0 [.long x, .null, .int y, .null, .null, .null] [] M Q := by
  have F0 : FR md_0 M M := FR.rf
  refine s_cl (pc := 0) rw_25_0 rfl (fun l9 => to_lsn (pc := 1) rw_25_1 (ls2 := [.long x, .null, .int y, .long l9, .null, .null]) rfl rfl (to_c (pc := 2) rw_25_2 (x := (0 : Int32)) rfl rfl (to_is (pc := 3) rw_25_3 (ls2 := [.long x, .null, .int y, .long l9, .null, .int (0 : Int32)]) rfl rfl ?_)))
  have k_10 : (0 : Int32).toInt = 0 := rfl
  exact (T_25_0 (x := x) (y := y) hX hd q1 h ((60 - (0 : Int32).toInt).toNat + 1)) M l9 (0 : Int32) hG F0 (by omega) (by omega) (by omega) (by omega)
set_option maxRecDepth 4000 in
set_option maxHeartbeats 0 in
theorem T_24_0 {X : mm_X} {d : Nat} {M : mm_M} {Q : Option Value → mm_M → Prop} {y : Int32} (hX : g_X X) (hd : 1 ≤ d) (q1 : y.toInt ≤ 60) (h : ∀ (M1 : mm_M), g_G M1 → FR md_c8 M M1 → Q (none) M1) : ∀ nn9 : Nat, (∀ (N : mm_M) (x3 : Int32) (u4 : Value), g_G N → FR md_c8 M N → (0 ≤ x3.toInt) → (x3.toInt ≤ 30) → (y.toInt ≤ 60) → 30 - x3.toInt < (nn9 : Int) → mm_T X d 24 2 [.ref 17, .ref 11, .int y, .int x3, u4] [] N Q) := by
  intro nn9
  induction nn9 with
  | zero =>
    intro N x3 u4 hG F0 g1 g2 g3 hm
    exfalso; omega
  | succ nn9 ih =>
    intro N x3 u4 hG F0 g1 g2 g3 hm
    refine to_in (pc := 2) rw_24_2 rfl (to_c (pc := 3) rw_24_3 (x := (30 : Int32)) rfl rfl (b_cge (pc := 5) rw_24_5 (A := x3.toInt) (B := 30) rfl rfl (fun h1 => ?_) (fun h1 => ?_)))
    · refine to_rv (pc := 62) rw_24_62 ?_
      exact h N hG F0 
    · refine to_an (pc := 8) rw_24_8 rfl (tt_gI (pc := 9) rw_24_9 (g_o hG rfl) (v := (N.2.1 17 4)) rfl (to_in (pc := 12) rw_24_12 rfl (s_any (pc := 13) rw_24_13 (fun _ _ => rfl) (fun v2 => to_c (pc := 14) rw_24_14 (x := (1 : Int32)) rfl rfl (s_and (pc := 15) rw_24_15 (B := 1) rfl (by omega) (fun v3 e4 _ _ => b_ieq (pc := 16) rw_24_16 (A := v3.toInt) rfl (fun h5 => ?_) (fun h5 => ?_)))))))
      · refine to_c (pc := 23) rw_24_23 (x := (0 : Int32)) rfl rfl (to_is (pc := 24) rw_24_24 (ls2 := [.ref 17, .ref 11, .int y, .int x3, .int (0 : Int32)]) rfl rfl (to_an (pc := 26) rw_24_26 rfl (s_gR (pc := 27) rw_24_27 hG rfl (v := 27) rfl (to_in (pc := 30) rw_24_30 rfl (to_i (pc := 31) rw_24_31 rfl (b_ieq_t (pc := 33) rw_24_33 (A := 0) rfl (by decide) (to_an (pc := 49) rw_24_49 rfl (s_gR (pc := 50) rw_24_50 hG rfl (v := 12) rfl (to_in (pc := 53) rw_24_53 rfl (s_lal (pc := 54) rw_24_54 hG rfl (n := 30) rfl (A := x3.toInt) rfl (by omega) (by omega) (fun l6 => s_las (pc := 55) rw_24_55 hG rfl (n := 30) rfl (A := x3.toInt) rfl (by omega) (by omega) (fun M8 W7 => ?_))))))))))))
        have hG9 := g_wl hG W7
        have F10 := FR.wl F0 W7 (show 18 ≤ 27 ∧ 27 ≤ 27 by decide)
        refine s_inc (pc := 56) rw_24_56 (ls2 := fun v => [.ref 17, .ref 11, .int y, .int v, .int (0 : Int32)]) rfl rfl (fun _ => rfl) (A := x3.toInt) (B := 1) rfl rfl (by omega) (fun v11 e12 => to_go (pc := 59) rw_24_59 ?_)
        exact ih M8 v11 (.int (0 : Int32)) hG9 F10 (by omega) (by omega) (by omega) (by omega)
      · refine to_c (pc := 19) rw_24_19 (x := (1 : Int32)) rfl rfl (to_go (pc := 20) rw_24_20 (to_is (pc := 24) rw_24_24 (ls2 := [.ref 17, .ref 11, .int y, .int x3, .int (1 : Int32)]) rfl rfl (to_an (pc := 26) rw_24_26 rfl (s_gR (pc := 27) rw_24_27 hG rfl (v := 27) rfl (to_in (pc := 30) rw_24_30 rfl (to_i (pc := 31) rw_24_31 rfl (b_ieq_f (pc := 33) rw_24_33 (A := 1) rfl (by decide) (to_an (pc := 36) rw_24_36 rfl (s_gR (pc := 37) rw_24_37 hG rfl (v := 12) rfl (to_in (pc := 40) rw_24_40 rfl (s_lal (pc := 41) rw_24_41 hG rfl (n := 30) rfl (A := x3.toInt) rfl (by omega) (by omega) (fun l13 => ?_))))))))))))
        refine to_in (pc := 42) rw_24_42 rfl (s_s (pc := 43) rw_24_43 (dp0 hd (by decide)) (ls0 := [.long l13, .null, .int y, .null, .null, .null]) rfl (Nat.le_of_ble_eq_true rfl) (Nat.le_of_ble_eq_true rfl) rfl (to_rcs rfl rfl) rfl (C_25 hX (dp1 hd (by decide)) hG (by omega) (x := l13) (y := y) (fun r14 M17 hG16 F15 => ?_)))
        have F18 := FR.c F0 F15 tg_125
        refine to_go (pc := 46) rw_24_46 (s_las (pc := 55) rw_24_55 hG16 rfl (n := 30) rfl (A := x3.toInt) rfl (by omega) (by omega) (fun M20 W19 => ?_))
        have hG21 := g_wl hG16 W19
        have F22 := FR.wl F18 W19 (show 18 ≤ 27 ∧ 27 ≤ 27 by decide)
        refine s_inc (pc := 56) rw_24_56 (ls2 := fun v => [.ref 17, .ref 11, .int y, .int v, .int (1 : Int32)]) rfl rfl (fun _ => rfl) (A := x3.toInt) (B := 1) rfl rfl (by omega) (fun v23 e24 => to_go (pc := 59) rw_24_59 ?_)
        exact ih M20 v23 (.int (1 : Int32)) hG21 F22 (by omega) (by omega) (by omega) (by omega)
set_option maxRecDepth 4000 in
set_option maxHeartbeats 0 in
theorem C_24 {X : mm_X} {d : Nat} {M : mm_M} {Q : Option Value → mm_M → Prop} {y : Int32} (hX : g_X X) (hd : 1 ≤ d) (hG : g_G M) (q1 : y.toInt ≤ 60) (h : ∀ (M1 : mm_M), g_G M1 → FR md_c8 M M1 → Q (none) M1) : mm_T X d 24 0 [.ref 17, .ref 11, .int y, .null, .null] [] M Q := by
  have F0 : FR md_c8 M M := FR.rf
  refine to_c (pc := 0) rw_24_0 (x := (0 : Int32)) rfl rfl (to_isn (pc := 1) rw_24_1 (ls2 := [.ref 17, .ref 11, .int y, .int (0 : Int32), .null]) rfl rfl ?_)
  have k_25 : (0 : Int32).toInt = 0 := rfl
  exact (T_24_0 (y := y) hX hd q1 h ((30 - (0 : Int32).toInt).toNat + 1)) M (0 : Int32) (.null) hG F0 (by omega) (by omega) (by omega) (by omega)
set_option maxRecDepth 4000 in
set_option maxHeartbeats 0 in
theorem T_27_0 {X : mm_X} {d : Nat} {M : mm_M} {Q : Option Value → mm_M → Prop} {p : Int32} {x : Int64} (hX : g_X X) (hd : 1 ≤ d) (q1 : 0 ≤ p.toInt) (q2 : p.toInt ≤ 5) (h : ∀ (r : Int32) (M1 : mm_M), g_G M1 → FR md_0 M M1 → Q (some (.int r)) M1) : ∀ nn9 : Nat, (∀ (N : mm_M) (x4 : Int32) (x5 : Int32) (u6 : Value), g_G N → FR md_0 M N → (0 ≤ x5.toInt) → (x5.toInt ≤ 30) → (0 ≤ p.toInt) → (p.toInt ≤ 5) → 30 - x5.toInt < (nn9 : Int) → mm_T X d 27 6 [.ref 17, .int p, .long x, .null, .int x4, .int x5, u6] [] N Q) := by
  intro nn9
  induction nn9 with
  | zero =>
    intro N x4 x5 u6 hG F0 g1 g2 g3 g4 hm
    exfalso; omega
  | succ nn9 ih =>
    intro N x4 x5 u6 hG F0 g1 g2 g3 g4 hm
    refine to_i (pc := 6) rw_27_6 rfl (to_an (pc := 8) rw_27_8 rfl (s_gR (pc := 9) rw_27_9 hG rfl (v := 25) rfl (to_in (pc := 12) rw_27_12 rfl (s_ial (pc := 13) rw_27_13 hG rfl (n := 6) rfl rfl (A := p.toInt) rfl (by omega) (by omega) (lo := 0) (hi := 30) rfl rfl (fun v1 w_2 _ _ => b_cge (pc := 14) rw_27_14 (A := x5.toInt) (B := v1.toInt) rfl rfl (fun h3 => ?_) (fun h3 => ?_))))))
    · refine to_i (pc := 53) rw_27_53 rfl (to_r0 (pc := 55) rw_27_55 ?_)
      exact h x4 N hG F0 
    · refine to_an (pc := 17) rw_27_17 rfl (s_gR (pc := 18) rw_27_18 hG rfl (v := 18) rfl (to_in (pc := 21) rw_27_21 rfl (s_aal (pc := 22) rw_27_22 hG (A := p.toInt) rfl (by omega) (by omega) (fun r4 hr4 => to_i (pc := 23) rw_27_23 rfl (s_ial (pc := 25) rw_27_25 hG (by rcases rr_6 hr4 with z | z | z | z | z | z <;> rw [z] <;> rfl) (n := 30) (by rcases rr_6 hr4 with z | z | z | z | z | z <;> rw [z] <;> rfl) (by rcases rr_6 hr4 with z | z | z | z | z | z <;> rw [z] <;> rfl) (A := x5.toInt) rfl (by omega) (by omega) (lo := 0) (hi := 29) (by rcases rr_6 hr4 with z | z | z | z | z | z <;> rw [z] <;> rfl) (by rcases rr_6 hr4 with z | z | z | z | z | z <;> rw [z] <;> rfl) (fun v5 w_6 _ _ => to_is (pc := 26) rw_27_26 (ls2 := [.ref 17, .int p, .long x, .null, .int x4, .int x5, .int v5]) rfl rfl (to_an (pc := 28) rw_27_28 rfl (to_i (pc := 29) rw_27_29 rfl (to_ln (pc := 31) rw_27_31 rfl rfl rfl (s_v (pc := 32) rw_27_32 (dp0 hd (by decide)) (ls0 := [.ref 17, .int v5, .long x, .null]) rfl (Nat.le_of_ble_eq_true rfl) (Nat.le_of_ble_eq_true rfl) rfl (to_rc rfl rfl rfl (g_o hG rfl)) rfl (to_an (pc := 0) rw_26_0 rfl ?_)))))))))))
      refine s_gR (pc := 1) rw_26_1 hG rfl (v := 27) rfl (to_in (pc := 4) rw_26_4 rfl (s_lal (pc := 5) rw_26_5 hG rfl (n := 30) rfl (A := v5.toInt) rfl (by omega) (by omega) (fun l7 => to_ln (pc := 6) rw_26_6 rfl rfl rfl (s_anyL (pc := 7) rw_26_7 (fun _ _ => rfl) (fun l8 => to_ln (pc := 8) rw_26_8 rfl rfl rfl (s_lcmp (pc := 9) rw_26_9 (fun v9 => b_ine (pc := 10) rw_26_10 (A := v9.toInt) rfl (fun h10 => ?_) (fun h10 => ?_))))))))
      · refine to_c (pc := 17) rw_26_17 (x := (0 : Int32)) rfl rfl (s_r1 (pc := 18) rw_26_18 (A := 0) rfl (by decide) (b_ieq_t (pc := 35) rw_27_35 (A := 0) rfl (by decide) (s_inc (pc := 47) rw_27_47 (ls2 := fun v => [.ref 17, .int p, .long x, .null, .int x4, .int v, .int v5]) rfl rfl (fun _ => rfl) (A := x5.toInt) (B := 1) rfl rfl (by omega) (fun v11 e12 => to_go (pc := 50) rw_27_50 ?_))))
        exact ih N x4 v11 (.int v5) hG F0 (by omega) (by omega) (by omega) (by omega) (by omega)
      · refine to_c (pc := 13) rw_26_13 (x := (1 : Int32)) rfl rfl (to_go (pc := 14) rw_26_14 (s_r1 (pc := 18) rw_26_18 (A := 1) rfl (by decide) (b_ieq_f (pc := 35) rw_27_35 (A := 1) rfl (by decide) (to_i (pc := 38) rw_27_38 rfl (to_c (pc := 40) rw_27_40 (x := (1 : Int32)) rfl rfl (to_i (pc := 41) rw_27_41 rfl (s_any (pc := 43) rw_27_43 (fun _ _ => rfl) (fun v13 => s_any (pc := 44) rw_27_44 (fun _ _ => rfl) (fun v14 => to_is (pc := 45) rw_27_45 (ls2 := [.ref 17, .int p, .long x, .null, .int v14, .int x5, .int v5]) rfl rfl (s_inc (pc := 47) rw_27_47 (ls2 := fun v => [.ref 17, .int p, .long x, .null, .int v14, .int v, .int v5]) rfl rfl (fun _ => rfl) (A := x5.toInt) (B := 1) rfl rfl (by omega) (fun v15 e16 => to_go (pc := 50) rw_27_50 ?_)))))))))))
        exact ih N v14 v15 (.int v5) hG F0 (by omega) (by omega) (by omega) (by omega) (by omega)
set_option maxRecDepth 4000 in
set_option maxHeartbeats 0 in
theorem C_27 {X : mm_X} {d : Nat} {M : mm_M} {Q : Option Value → mm_M → Prop} {p : Int32} {x : Int64} (hX : g_X X) (hd : 1 ≤ d) (hG : g_G M) (q1 : 0 ≤ p.toInt) (q2 : p.toInt ≤ 5) (h : ∀ (r : Int32) (M1 : mm_M), g_G M1 → FR md_0 M M1 → Q (some (.int r)) M1) : mm_T X d 27 0 [.ref 17, .int p, .long x, .null, .null, .null, .null] [] M Q := by
  have F0 : FR md_0 M M := FR.rf
  refine to_c (pc := 0) rw_27_0 (x := (0 : Int32)) rfl rfl (to_is (pc := 1) rw_27_1 (ls2 := [.ref 17, .int p, .long x, .null, .int (0 : Int32), .null, .null]) rfl rfl (to_c (pc := 3) rw_27_3 (x := (0 : Int32)) rfl rfl (to_is (pc := 4) rw_27_4 (ls2 := [.ref 17, .int p, .long x, .null, .int (0 : Int32), .int (0 : Int32), .null]) rfl rfl ?_)))
  have k_17 : (0 : Int32).toInt = 0 := rfl
  exact (T_27_0 (p := p) (x := x) hX hd q1 q2 h ((30 - (0 : Int32).toInt).toNat + 1)) M (0 : Int32) (0 : Int32) (.null) hG F0 (by omega) (by omega) (by omega) (by omega) (by omega)
set_option maxRecDepth 4000 in
set_option maxHeartbeats 0 in
theorem T_28_0 {X : mm_X} {d : Nat} {M : mm_M} {Q : Option Value → mm_M → Prop} {f : Int32} {a : Int32} {b : Int32} {x : Int64} (hX : g_X X) (hd : 1 ≤ d) (q1 : 0 ≤ f.toInt) (q2 : f.toInt ≤ 5) (q3 : 0 ≤ a.toInt) (q4 : a.toInt ≤ 5) (q5 : 0 ≤ b.toInt) (q6 : b.toInt ≤ 5) (h : ∀ (M1 : mm_M), g_G M1 → FR md_c8 M M1 → Q (none) M1) : ∀ nn9 : Nat, (∀ (N : mm_M) (u1 : Value) (x6 : Int32) (x7 : Int32), g_G N → FR md_c8 M N → (0 ≤ x7.toInt) → (x7.toInt ≤ 30) → (0 ≤ x6.toInt) → (x6.toInt ≤ 30) → (0 ≤ a.toInt) → (a.toInt ≤ 5) → (0 ≤ b.toInt) → (b.toInt ≤ 5) → 30 - x7.toInt < (nn9 : Int) → mm_T X d 28 50 [.ref 17, u1, .int a, .int b, .long x, .null, .int x6, .int x7] [] N Q) := by
  intro nn9
  induction nn9 with
  | zero =>
    intro N u1 x6 x7 hG F0 g1 g2 g3 g4 g5 g6 g7 g8 hm
    exfalso; omega
  | succ nn9 ih =>
    intro N u1 x6 x7 hG F0 g1 g2 g3 g4 g5 g6 g7 g8 hm
    refine to_i (pc := 50) rw_28_50 rfl (to_i (pc := 52) rw_28_52 rfl (b_cge (pc := 54) rw_28_54 (A := x7.toInt) (B := x6.toInt) rfl rfl (fun h1 => ?_) (fun h1 => ?_)))
    · refine to_rv (pc := 95) rw_28_95 ?_
      exact h N hG F0 
    · refine to_an (pc := 57) rw_28_57 rfl (to_an (pc := 58) rw_28_58 rfl (to_an (pc := 59) rw_28_59 rfl (s_gR (pc := 60) rw_28_60 hG rfl (v := 26) rfl (to_i (pc := 63) rw_28_63 rfl (s_ial (pc := 65) rw_28_65 hG rfl (n := 30) rfl rfl (A := x7.toInt) rfl (by omega) (by omega) (lo := 0) (hi := 29) rfl rfl (fun v2 w_3 _ _ => to_l (pc := 66) rw_28_66 rfl rfl rfl (s_v (pc := 68) rw_28_68 (dp0 hd (by decide)) (ls0 := [.ref 17, .int v2, .long x, .null]) rfl (Nat.le_of_ble_eq_true rfl) (Nat.le_of_ble_eq_true rfl) rfl (to_rc rfl rfl rfl (g_o hG rfl)) rfl (to_an (pc := 0) rw_26_0 rfl (s_gR (pc := 1) rw_26_1 hG rfl (v := 27) rfl (to_in (pc := 4) rw_26_4 rfl (s_lal (pc := 5) rw_26_5 hG rfl (n := 30) rfl (A := v2.toInt) rfl (by omega) (by omega) (fun l4 => ?_))))))))))))
      refine to_ln (pc := 6) rw_26_6 rfl rfl rfl (s_anyL (pc := 7) rw_26_7 (fun _ _ => rfl) (fun l5 => to_ln (pc := 8) rw_26_8 rfl rfl rfl (s_lcmp (pc := 9) rw_26_9 (fun v6 => b_ine (pc := 10) rw_26_10 (A := v6.toInt) rfl (fun h7 => ?_) (fun h7 => ?_)))))
      · refine to_c (pc := 17) rw_26_17 (x := (0 : Int32)) rfl rfl (s_r1 (pc := 18) rw_26_18 (A := 0) rfl (by decide) (b_ieq_t (pc := 71) rw_28_71 (A := 0) rfl (by decide) (to_in (pc := 78) rw_28_78 rfl (to_an (pc := 79) rw_28_79 rfl (s_gR (pc := 80) rw_28_80 hG rfl (v := 26) rfl (to_i (pc := 83) rw_28_83 rfl (s_ialk (pc := 85) rw_28_85 hG rfl (n := 30) rfl rfl (A := x7.toInt) rfl (by omega) (by omega) (v := v2) w_3 (s_v (pc := 86) rw_28_86 (dp0 hd (by decide)) (ls0 := [.ref 17, .int b, .int v2]) rfl (Nat.le_of_ble_eq_true rfl) (Nat.le_of_ble_eq_true rfl) rfl (to_rc rfl rfl rfl (g_o hG rfl)) rfl (C_23 hX (dp1 hd (by decide)) hG (by omega) (by omega) (by omega) (by omega) (p := b) (c := v2) (fun M12 hG11 F10 => ?_))))))))))
        have F13 := FR.c F0 F10 tg_126
        refine s_inc (pc := 89) rw_28_89 (ls2 := fun v => [.ref 17, u1, .int a, .int b, .long x, .null, .int x6, .int v]) rfl rfl (fun _ => rfl) (A := x7.toInt) (B := 1) rfl rfl (by omega) (fun v14 e15 => to_go (pc := 92) rw_28_92 ?_)
        exact ih M12 (u1) x6 v14 hG11 F13 (by omega) (by omega) (by omega) (by omega) (by omega) (by omega) (by omega) (by omega) (by omega)
      · refine to_c (pc := 13) rw_26_13 (x := (1 : Int32)) rfl rfl (to_go (pc := 14) rw_26_14 (s_r1 (pc := 18) rw_26_18 (A := 1) rfl (by decide) (b_ieq_f (pc := 71) rw_28_71 (A := 1) rfl (by decide) (to_in (pc := 74) rw_28_74 rfl (to_go (pc := 75) rw_28_75 (to_an (pc := 79) rw_28_79 rfl (s_gR (pc := 80) rw_28_80 hG rfl (v := 26) rfl (to_i (pc := 83) rw_28_83 rfl (s_ialk (pc := 85) rw_28_85 hG rfl (n := 30) rfl rfl (A := x7.toInt) rfl (by omega) (by omega) (v := v2) w_3 (s_v (pc := 86) rw_28_86 (dp0 hd (by decide)) (ls0 := [.ref 17, .int a, .int v2]) rfl (Nat.le_of_ble_eq_true rfl) (Nat.le_of_ble_eq_true rfl) rfl (to_rc rfl rfl rfl (g_o hG rfl)) rfl (C_23 hX (dp1 hd (by decide)) hG (by omega) (by omega) (by omega) (by omega) (p := a) (c := v2) (fun M20 hG19 F18 => ?_))))))))))))
        have F21 := FR.c F0 F18 tg_126
        refine s_inc (pc := 89) rw_28_89 (ls2 := fun v => [.ref 17, u1, .int a, .int b, .long x, .null, .int x6, .int v]) rfl rfl (fun _ => rfl) (A := x7.toInt) (B := 1) rfl rfl (by omega) (fun v22 e23 => to_go (pc := 92) rw_28_92 ?_)
        exact ih M20 (u1) x6 v22 hG19 F21 (by omega) (by omega) (by omega) (by omega) (by omega) (by omega) (by omega) (by omega) (by omega)
set_option maxRecDepth 4000 in
set_option maxHeartbeats 0 in
theorem T_28_1 {X : mm_X} {d : Nat} {M : mm_M} {Q : Option Value → mm_M → Prop} {f : Int32} {a : Int32} {b : Int32} {x : Int64} (hX : g_X X) (hd : 1 ≤ d) (q1 : 0 ≤ f.toInt) (q2 : f.toInt ≤ 5) (q3 : 0 ≤ a.toInt) (q4 : a.toInt ≤ 5) (q5 : 0 ≤ b.toInt) (q6 : b.toInt ≤ 5) (h : ∀ (M1 : mm_M), g_G M1 → FR md_c8 M M1 → Q (none) M1) : ∀ nn9 : Nat, (∀ (N : mm_M) (x6 : Int32) (x7 : Int32), g_G N → FR md_c8 M N → (0 ≤ x7.toInt) → (x7.toInt ≤ 30) → (0 ≤ x6.toInt) → (x6.toInt ≤ 30) → (0 ≤ f.toInt) → (f.toInt ≤ 5) → (0 ≤ a.toInt) → (a.toInt ≤ 5) → (0 ≤ b.toInt) → (b.toInt ≤ 5) → 30 - x7.toInt < (nn9 : Int) → mm_T X d 28 11 [.ref 17, .int f, .int a, .int b, .long x, .null, .int x6, .int x7] [] N Q) := by
  intro nn9
  induction nn9 with
  | zero =>
    intro N x6 x7 hG F0 g1 g2 g3 g4 g5 g6 g7 g8 g9 g10 hm
    exfalso; omega
  | succ nn9 ih =>
    intro N x6 x7 hG F0 g1 g2 g3 g4 g5 g6 g7 g8 g9 g10 hm
    refine to_i (pc := 11) rw_28_11 rfl (to_i (pc := 13) rw_28_13 rfl (b_cge (pc := 15) rw_28_15 (A := x7.toInt) (B := x6.toInt) rfl rfl (fun h24 => ?_) (fun h24 => ?_)))
    · refine to_an (pc := 40) rw_28_40 rfl (s_gR (pc := 41) rw_28_41 hG rfl (v := 25) rfl (to_in (pc := 44) rw_28_44 rfl (to_c (pc := 45) rw_28_45 (x := (0 : Int32)) rfl rfl (s_ias (pc := 46) rw_28_46 hG rfl (n := 6) rfl (A := f.toInt) rfl (by omega) (by omega) (fun M26 W25 => ?_)))))
      have hG27 := g_w hG W25 (A := 0) rfl (lo := 0) (hi := 30) rfl rfl (by omega) (by decide)
      have F28 := FR.w F0 W25 (show 18 ≤ 25 ∧ 25 ≤ 27 by decide)
      refine to_c (pc := 47) rw_28_47 (x := (0 : Int32)) rfl rfl (to_is (pc := 48) rw_28_48 (ls2 := [.ref 17, .int f, .int a, .int b, .long x, .null, .int x6, .int (0 : Int32)]) rfl rfl ?_)
      have k_29 : (0 : Int32).toInt = 0 := rfl
      exact (T_28_0 (f := f) (a := a) (b := b) (x := x) hX hd q1 q2 q3 q4 q5 q6 h ((30 - (0 : Int32).toInt).toNat + 1)) M26 (.int f) x6 (0 : Int32) hG27 F28 (by omega) (by omega) (by omega) (by omega) (by omega) (by omega) (by omega) (by omega) (by omega)
    · refine to_an (pc := 18) rw_28_18 rfl (s_gR (pc := 19) rw_28_19 hG rfl (v := 26) rfl (to_i (pc := 22) rw_28_22 rfl (to_an (pc := 24) rw_28_24 rfl (s_gR (pc := 25) rw_28_25 hG rfl (v := 18) rfl (to_in (pc := 28) rw_28_28 rfl (s_aal (pc := 29) rw_28_29 hG (A := f.toInt) rfl (by omega) (by omega) (fun r30 hr30 => to_i (pc := 30) rw_28_30 rfl (s_ial (pc := 32) rw_28_32 hG (by rcases rr_6 hr30 with z | z | z | z | z | z <;> rw [z] <;> rfl) (n := 30) (by rcases rr_6 hr30 with z | z | z | z | z | z <;> rw [z] <;> rfl) (by rcases rr_6 hr30 with z | z | z | z | z | z <;> rw [z] <;> rfl) (A := x7.toInt) rfl (by omega) (by omega) (lo := 0) (hi := 29) (by rcases rr_6 hr30 with z | z | z | z | z | z <;> rw [z] <;> rfl) (by rcases rr_6 hr30 with z | z | z | z | z | z <;> rw [z] <;> rfl) (fun v31 w_32 _ _ => s_ias (pc := 33) rw_28_33 hG rfl (n := 30) rfl (A := x7.toInt) rfl (by omega) (by omega) (fun M34 W33 => ?_))))))))))
      have hG35 := g_w hG W33 (A := v31.toInt) rfl (lo := 0) (hi := 29) rfl rfl (by omega) (by decide)
      have F36 := FR.w F0 W33 (show 18 ≤ 26 ∧ 26 ≤ 27 by decide)
      refine s_inc (pc := 34) rw_28_34 (ls2 := fun v => [.ref 17, .int f, .int a, .int b, .long x, .null, .int x6, .int v]) rfl rfl (fun _ => rfl) (A := x7.toInt) (B := 1) rfl rfl (by omega) (fun v37 e38 => to_go (pc := 37) rw_28_37 ?_)
      exact ih M34 x6 v37 hG35 F36 (by omega) (by omega) (by omega) (by omega) (by omega) (by omega) (by omega) (by omega) (by omega) (by omega) (by omega)
set_option maxRecDepth 4000 in
set_option maxHeartbeats 0 in
theorem C_28 {X : mm_X} {d : Nat} {M : mm_M} {Q : Option Value → mm_M → Prop} {f : Int32} {a : Int32} {b : Int32} {x : Int64} (hX : g_X X) (hd : 1 ≤ d) (hG : g_G M) (q1 : 0 ≤ f.toInt) (q2 : f.toInt ≤ 5) (q3 : 0 ≤ a.toInt) (q4 : a.toInt ≤ 5) (q5 : 0 ≤ b.toInt) (q6 : b.toInt ≤ 5) (h : ∀ (M1 : mm_M), g_G M1 → FR md_c8 M M1 → Q (none) M1) : mm_T X d 28 0 [.ref 17, .int f, .int a, .int b, .long x, .null, .null, .null] [] M Q := by
  have F0 : FR md_c8 M M := FR.rf
  refine to_an (pc := 0) rw_28_0 rfl (s_gR (pc := 1) rw_28_1 hG rfl (v := 25) rfl (to_in (pc := 4) rw_28_4 rfl (s_ial (pc := 5) rw_28_5 hG rfl (n := 6) rfl rfl (A := f.toInt) rfl (by omega) (by omega) (lo := 0) (hi := 30) rfl rfl (fun v39 w_40 _ _ => to_is (pc := 6) rw_28_6 (ls2 := [.ref 17, .int f, .int a, .int b, .long x, .null, .int v39, .null]) rfl rfl (to_c (pc := 8) rw_28_8 (x := (0 : Int32)) rfl rfl (to_is (pc := 9) rw_28_9 (ls2 := [.ref 17, .int f, .int a, .int b, .long x, .null, .int v39, .int (0 : Int32)]) rfl rfl ?_))))))
  have k_41 : (0 : Int32).toInt = 0 := rfl
  exact (T_28_1 (f := f) (a := a) (b := b) (x := x) hX hd q1 q2 q3 q4 q5 q6 h ((30 - (0 : Int32).toInt).toNat + 1)) M v39 (0 : Int32) hG F0 (by omega) (by omega) (by omega) (by omega) (by omega) (by omega) (by omega) (by omega) (by omega) (by omega) (by omega)
