theorem tg_265 : ∀ a i : Nat, (a < 0) → (a = 77 ∧ i = 42 ∨ a = 99 ∨ a = 100 ∨ a = 109) := fun a i z => by omega
theorem tg_266 : ∀ a i : Nat, (a = 99 ∨ a = 100) → (a = 77 ∧ i = 42 ∨ a = 99 ∨ a = 100 ∨ a = 109) := fun a i z => by omega
theorem tg_267 : ∀ a i : Nat, (a = 99 ∨ a = 100) → (a = 99 ∨ a = 100) := fun a i z => by omega
theorem tg_268 : ∀ a i : Nat, (a = 100 ∨ a = 77 ∧ i = 28) → ¬ (a = 77 ∧ i = 41) := fun a i z => by omega
theorem tg_269 : ∀ a i j : Nat, (a = 100 ∨ a = 77 ∧ i = 28) → ¬ (a = 109 ∧ i = j) := fun a i j z => by omega
set_option maxRecDepth 4000 in
set_option maxHeartbeats 0 in
theorem C_193 {X : mm_X} {d : Nat} {M : mm_M} {Q : Option Value → mm_M → Prop} (hX : g_X X) (hd : 0 ≤ d) (hG : g_G M) (q1 : PS M) (h : ∀ (r : Int32) (M1 : mm_M), g_G M1 → FR md_cd M M1 → (30 ≤ (M.2.1 77 28).toInt → r.toInt = -1 ∧ (M1.2.1 77 28).toInt = (M.2.1 77 28).toInt) → ((M.2.1 77 28).toInt < 30 → r.toInt = (M.2.1 77 28).toInt ∧ (M1.2.1 77 28).toInt = (M.2.1 77 28).toInt + 1) → PS M1 → Q (some (.int r)) M1) : mm_T X d 192 0 [.ref 77] [] M Q := by
  have F0 : FR md_cd M M := FR.rf
  refine to_an (pc := 0) rw_193_0 rfl (to_c (pc := 1) rw_193_1 (x := (0 : Int32)) rfl rfl (s_pI (pc := 2) rw_193_2 hG rfl (fun M2 W1 => ?_)))
  have hG3 := g_wf hG W1 rfl rfl (by decide)
  have F4 := FR.w F0 W1 (show 77 = 77 ∧ (2 = 2 ∨ 2 = 28) ∨ 77 = 99 ∨ 77 = 100 by decide)
  refine to_an (pc := 5) rw_193_5 rfl ?_
  have c_5 : M2.2.1 77 28 = (M.2.1 77 28) := (W_n W1 (by decide) rfl)
  have b_6 := g_b hG (a := 77) (i := 28) (lo := 0) (hi := 30) rfl rfl
  refine tt_gI (pc := 6) rw_193_6 (g_o hG3 rfl) (v := (M.2.1 77 28)) c_5 (to_c (pc := 9) rw_193_9 (x := (30 : Int32)) rfl rfl (b_cne (pc := 11) rw_193_11 (A := (M.2.1 77 28).toInt) (B := 30) rfl rfl (fun h7 => ?_) (fun h7 => ?_)))
  · refine to_an (pc := 16) rw_193_16 rfl (s_gR (pc := 17) rw_193_17 hG3 rfl (v := 99) rfl (to_an (pc := 20) rw_193_20 rfl (s_gR (pc := 21) rw_193_21 hG3 rfl (v := 100) rfl (to_c (pc := 24) rw_193_24 (x := (0 : Int32)) rfl rfl (s_ial (pc := 25) rw_193_25 hG3 rfl (n := 6) rfl rfl (A := 0) rfl (by omega) (by omega) (lo := 0) (hi := 30) rfl rfl (fun v8 w_9 _ _ => ?_))))))
    have j_10 := (PS_f (fun a i z => W_n W1 (tg_259 a i z) rfl) q1)
    have t_11 : (M2.2.1 77 28).toInt = (M.2.1 77 28).toInt := congrArg Int32.toInt c_5
    have s_12 : PSm M2 = PSm M := PSm_f (fun i => W_n W1 (by omega) rfl)
    have s_13 := PS_e j_10
    have s_14 := PSm_le hG3 (p := (0 : Int).toNat) (by decide)
    have t_15 := congrArg Int32.toInt w_9
    have t_16 : (M2.2.1 100 ((0 : Int)).toNat).toInt = (M.2.1 100 ((0 : Int)).toNat).toInt := congrArg Int32.toInt (W_n W1 (by omega) rfl)
    refine to_an (pc := 26) rw_193_26 rfl (tt_gI (pc := 27) rw_193_27 (g_o hG3 rfl) (v := (M.2.1 77 28)) c_5 (s_ias (pc := 30) rw_193_30 hG3 rfl (n := 180) rfl (A := v8.toInt) rfl (by omega) (by omega) (fun M18 W17 => ?_)))
    have hG19 := g_w hG3 W17 (A := (M.2.1 77 28).toInt) rfl (lo := 0) (hi := 29) rfl rfl (by omega) (by decide)
    have F20 := FR.w F4 W17 (show 99 = 77 ∧ ((v8.toInt).toNat = 2 ∨ (v8.toInt).toNat = 28) ∨ 99 = 99 ∨ 99 = 100 by omega)
    refine to_an (pc := 31) rw_193_31 rfl (s_gR (pc := 32) rw_193_32 hG19 rfl (v := 100) rfl (to_c (pc := 35) rw_193_35 (x := (0 : Int32)) rfl rfl (to_dup2 (pc := 36) rw_193_36 (s_ialk (pc := 37) rw_193_37 hG19 rfl (n := 6) rfl rfl (A := 0) rfl (by omega) (by omega) (v := v8) (W_n W17 (by omega) w_9) (to_c (pc := 38) rw_193_38 (x := (1 : Int32)) rfl rfl (s_add (pc := 39) rw_193_39 (A := v8.toInt) (B := 1) rfl rfl (by omega) (fun v23 e24 => s_ias (pc := 40) rw_193_40 hG19 rfl (n := 6) rfl (A := 0) rfl (by omega) (by omega) (fun M26 W25 => ?_))))))))
    have hG27 := g_w hG19 W25 (A := v23.toInt) rfl (lo := 0) (hi := 30) rfl rfl (by omega) (by decide)
    have F28 := FR.w F20 W25 (show 100 = 77 ∧ ((0 : Int).toNat = 2 ∨ (0 : Int).toNat = 28) ∨ 100 = 99 ∨ 100 = 100 by omega)
    refine to_an (pc := 41) rw_193_41 rfl (to_dupr (pc := 42) rw_193_42 ?_)
    have c_29 : M26.2.1 77 28 = (M.2.1 77 28) := (W_n W25 (fun z => absurd z.1 (by decide)) (W_n W17 (fun z => absurd z.1 (by decide)) c_5))
    refine tt_gI (pc := 43) rw_193_43 (g_o hG27 rfl) (v := (M.2.1 77 28)) c_29 (to_c (pc := 46) rw_193_46 (x := (1 : Int32)) rfl rfl (s_add (pc := 47) rw_193_47 (A := (M.2.1 77 28).toInt) (B := 1) rfl rfl (by omega) (fun v30 e31 => s_pI (pc := 48) rw_193_48 hG27 rfl (fun M33 W32 => ?_))))
    have hG34 := g_w hG27 W32 (A := v30.toInt) rfl (lo := 0) (hi := 30) rfl rfl (by omega) (by decide)
    have F35 := FR.w F28 W32 (show 77 = 77 ∧ (28 = 2 ∨ 28 = 28) ∨ 77 = 99 ∨ 77 = 100 by decide)
    have s_36 : PSm M18 = PSm M2 := PSm_f (fun i => W_n W17 (by omega) rfl)
    have s_37 : PSm M26 = PSm M18 - (M18.2.1 100 (0 : Int).toNat).toInt + (M26.2.1 100 (0 : Int).toNat).toInt := PSm_set (by omega) (fun i z => W_n W25 (by omega) rfl)
    have s_38 : (M26.2.1 100 (0 : Int).toNat).toInt = v23.toInt := congrArg Int32.toInt (W_e W25)
    have s_39 : (M18.2.1 100 (0 : Int).toNat).toInt = (M.2.1 100 (0 : Int).toNat).toInt := congrArg Int32.toInt (W_n W17 (by omega) (W_n W1 (by omega) rfl))
    have s_40 : PSm M33 = PSm M26 := PSm_f (fun i => W_n W32 (by omega) rfl)
    have c_41 : M33.2.1 77 28 = v30 := (W_e W32)
    have t_42 : (M33.2.1 77 28).toInt = v30.toInt := congrArg Int32.toInt c_41
    have j_43 : PS M33 := PS_i (by omega)
    refine to_an (pc := 51) rw_193_51 rfl (tt_gI (pc := 52) rw_193_52 (g_o hG34 rfl) (v := v30) c_41 (to_c (pc := 55) rw_193_55 (x := (1 : Int32)) rfl rfl (s_sub (pc := 56) rw_193_56 (A := v30.toInt) (B := 1) rfl rfl (by omega) (fun v44 e45 => to_r0 (pc := 57) rw_193_57 ?_))))
    exact h v44 M33 hG34 F35 (by omega) (by omega) j_43
  · refine to_c (pc := 14) rw_193_14 (x := (-1 : Int32)) rfl rfl (to_r0 (pc := 15) rw_193_15 ?_)
    have k_46 : (-1 : Int32).toInt = -1 := rfl
    have t_47 : (M2.2.1 77 28).toInt = (M.2.1 77 28).toInt := congrArg Int32.toInt c_5
    have j_48 := (PS_f (fun a i z => W_n W1 (tg_259 a i z) rfl) q1)
    exact h (-1 : Int32) M2 hG3 F4 (by omega) (by omega) j_48
set_option maxRecDepth 4000 in
set_option maxHeartbeats 0 in
theorem T_209_0 {X : mm_X} {d : Nat} {M : mm_M} {Q : Option Value → mm_M → Prop} (hX : g_X X) (hd : 0 ≤ d) (h : ∀ (r : Int32) (M1 : mm_M), g_G M1 → FR md_ga M M1 → (r.toInt = (M.2.1 77 28).toInt) → ((M1.2.1 77 41).toInt = 0) → PS M1 → Q (some (.int r)) M1) : ∀ nn9 : Nat, (∀ (N : mm_M) (x1 : Int32), g_G N → FR md_ga M N → (0 ≤ x1.toInt) → (x1.toInt ≤ 30) → ((N.2.1 77 28).toInt = (M.2.1 77 28).toInt) → (∀ j : Nat, j < 6 → N.2.1 100 j = 0) → 30 - x1.toInt < (nn9 : Int) → mm_T X d 208 28 [.ref 77, .int x1] [] N Q) := by
  intro nn9
  induction nn9 with
  | zero =>
    intro N x1 hG F0 g1 g2 g3 g4 hm
    have b_1 := g_b hG (a := 77) (i := 28) (lo := 0) (hi := 30) rfl rfl
    exfalso; omega
  | succ nn9 ih =>
    intro N x1 hG F0 g1 g2 g3 g4 hm
    have b_2 := g_b hG (a := 77) (i := 28) (lo := 0) (hi := 30) rfl rfl
    refine to_in (pc := 28) rw_209_28 rfl (to_an (pc := 29) rw_209_29 rfl (tt_gI (pc := 30) rw_209_30 (g_o hG rfl) (v := (N.2.1 77 28)) rfl (b_cge (pc := 33) rw_209_33 (A := x1.toInt) (B := (N.2.1 77 28).toInt) rfl rfl (fun h3 => ?_) (fun h3 => ?_))))
    · refine to_an (pc := 49) rw_209_49 rfl (s_gR (pc := 50) rw_209_50 hG rfl (v := 100) rfl (to_c (pc := 53) rw_209_53 (x := (0 : Int32)) rfl rfl (to_an (pc := 54) rw_209_54 rfl (tt_gI (pc := 55) rw_209_55 (g_o hG rfl) (v := (N.2.1 77 28)) rfl (s_ias (pc := 58) rw_209_58 hG rfl (n := 6) rfl (A := 0) rfl (by omega) (by omega) (fun M5 W4 => ?_))))))
      have hG6 := g_w hG W4 (A := (N.2.1 77 28).toInt) rfl (lo := 0) (hi := 30) rfl rfl (by omega) (by decide)
      have F7 := FR.w F0 W4 (show 100 = 77 ∧ ((0 : Int).toNat = 2 ∨ (0 : Int).toNat = 41) ∨ 100 = 99 ∨ 100 = 100 by omega)
      have s_9 : PSm N = 0 := PSm_0 (fun j z => (g4 j z))
      have s_10 : (N.2.1 100 (0 : Int).toNat).toInt = (0 : Int32).toInt := congrArg Int32.toInt ((fun j z => (g4 j z)) 0 (by decide))
      have k_11 : (0 : Int32).toInt = 0 := rfl
      have s_12 : PSm M5 = PSm N - (N.2.1 100 (0 : Int).toNat).toInt + (M5.2.1 100 (0 : Int).toNat).toInt := PSm_set (by omega) (fun i z => W_n W4 (by omega) rfl)
      have s_13 : (M5.2.1 100 (0 : Int).toNat).toInt = (N.2.1 77 28).toInt := congrArg Int32.toInt (W_e W4)
      have c_14 : M5.2.1 77 28 = (N.2.1 77 28) := (W_n W4 (fun z => absurd z.1 (by decide)) rfl)
      have t_15 : (M5.2.1 77 28).toInt = (N.2.1 77 28).toInt := congrArg Int32.toInt c_14
      have j_8 : PS M5 := PS_i (by omega)
      refine to_an (pc := 59) rw_209_59 rfl (to_c (pc := 60) rw_209_60 (x := (0 : Int32)) rfl rfl (s_pI (pc := 61) rw_209_61 hG6 rfl (fun M17 W16 => ?_)))
      have hG18 := g_wf hG6 W16 rfl rfl (by decide)
      have F19 := FR.w F7 W16 (show 77 = 77 ∧ (41 = 2 ∨ 41 = 41) ∨ 77 = 99 ∨ 77 = 100 by decide)
      refine to_an (pc := 64) rw_209_64 rfl ?_
      have c_20 : M17.2.1 77 28 = (N.2.1 77 28) := (W_n W16 (by decide) c_14)
      refine tt_gI (pc := 65) rw_209_65 (g_o hG18 rfl) (v := (N.2.1 77 28)) c_20 (to_r0 (pc := 68) rw_209_68 ?_)
      have c_21 : M17.2.1 77 41 = (0 : Int32) := (W_e W16)
      have t_22 : (M17.2.1 77 41).toInt = (0 : Int32).toInt := congrArg Int32.toInt c_21
      have j_23 := (PS_f (fun a i z => W_n W16 (tg_268 a i z) rfl) j_8)
      exact h (N.2.1 77 28) M17 hG18 F19 (by omega) (by omega) j_23
    · refine to_an (pc := 36) rw_209_36 rfl (s_gR (pc := 37) rw_209_37 hG rfl (v := 99) rfl (to_in (pc := 40) rw_209_40 rfl (to_in (pc := 41) rw_209_41 rfl (s_ias (pc := 42) rw_209_42 hG rfl (n := 180) rfl (A := x1.toInt) rfl (by omega) (by omega) (fun M25 W24 => ?_)))))
      have hG26 := g_w hG W24 (A := x1.toInt) rfl (lo := 0) (hi := 29) rfl rfl (by omega) (by decide)
      have F27 := FR.w F0 W24 (show 99 = 77 ∧ ((x1.toInt).toNat = 2 ∨ (x1.toInt).toNat = 41) ∨ 99 = 99 ∨ 99 = 100 by omega)
      refine s_inc (pc := 43) rw_209_43 (ls2 := fun v => [.ref 77, .int v]) rfl rfl (fun _ => rfl) (A := x1.toInt) (B := 1) rfl rfl (by omega) (fun v28 e29 => to_go (pc := 46) rw_209_46 ?_)
      have c_30 : M25.2.1 77 28 = (N.2.1 77 28) := (W_n W24 (fun z => absurd z.1 (by decide)) rfl)
      have t_31 : (M25.2.1 77 28).toInt = (N.2.1 77 28).toInt := congrArg Int32.toInt c_30
      exact ih M25 v28 hG26 F27 (by omega) (by omega) (by omega) (fun j z => (W_n W24 (by omega) (g4 j z))) (by omega)
set_option maxRecDepth 4000 in
set_option maxHeartbeats 0 in
theorem T_209_1 {X : mm_X} {d : Nat} {M : mm_M} {Q : Option Value → mm_M → Prop} (hX : g_X X) (hd : 0 ≤ d) (h : ∀ (r : Int32) (M1 : mm_M), g_G M1 → FR md_ga M M1 → (r.toInt = (M.2.1 77 28).toInt) → ((M1.2.1 77 41).toInt = 0) → PS M1 → Q (some (.int r)) M1) : ∀ nn9 : Nat, (∀ (N : mm_M) (x1 : Int32), g_G N → FR md_ga M N → (0 ≤ x1.toInt) → (x1.toInt ≤ 6) → (∀ j : Nat, j < (x1.toInt).toNat → N.2.1 100 j = 0) → ((N.2.1 77 28).toInt = (M.2.1 77 28).toInt) → 6 - x1.toInt < (nn9 : Int) → mm_T X d 208 7 [.ref 77, .int x1] [] N Q) := by
  intro nn9
  induction nn9 with
  | zero =>
    intro N x1 hG F0 g1 g2 g3 g4 hm
    have b_32 := g_b hG (a := 77) (i := 28) (lo := 0) (hi := 30) rfl rfl
    exfalso; omega
  | succ nn9 ih =>
    intro N x1 hG F0 g1 g2 g3 g4 hm
    have b_33 := g_b hG (a := 77) (i := 28) (lo := 0) (hi := 30) rfl rfl
    refine to_in (pc := 7) rw_209_7 rfl (to_c (pc := 8) rw_209_8 (x := (6 : Int32)) rfl rfl (b_cge (pc := 10) rw_209_10 (A := x1.toInt) (B := 6) rfl rfl (fun h34 => ?_) (fun h34 => ?_)))
    · refine to_c (pc := 26) rw_209_26 (x := (0 : Int32)) rfl rfl (to_isn (pc := 27) rw_209_27 (ls2 := [.ref 77, .int (0 : Int32)]) rfl rfl ?_)
      have k_35 : (0 : Int32).toInt = 0 := rfl
      exact (T_209_0 hX hd  h ((30 - (0 : Int32).toInt).toNat + 1)) N (0 : Int32) hG F0 (by omega) (by omega) (by omega) (fun j z => (g3 j (by omega))) (by omega)
    · refine to_an (pc := 13) rw_209_13 rfl (s_gR (pc := 14) rw_209_14 hG rfl (v := 100) rfl (to_in (pc := 17) rw_209_17 rfl (to_c (pc := 18) rw_209_18 (x := (0 : Int32)) rfl rfl (s_ias (pc := 19) rw_209_19 hG rfl (n := 6) rfl (A := x1.toInt) rfl (by omega) (by omega) (fun M37 W36 => ?_)))))
      have hG38 := g_w hG W36 (A := 0) rfl (lo := 0) (hi := 30) rfl rfl (by omega) (by decide)
      have F39 := FR.w F0 W36 (show 100 = 77 ∧ ((x1.toInt).toNat = 2 ∨ (x1.toInt).toNat = 41) ∨ 100 = 99 ∨ 100 = 100 by omega)
      refine s_inc (pc := 20) rw_209_20 (ls2 := fun v => [.ref 77, .int v]) rfl rfl (fun _ => rfl) (A := x1.toInt) (B := 1) rfl rfl (by omega) (fun v40 e41 => to_go (pc := 23) rw_209_23 ?_)
      have j_42 : ∀ j : Nat, j < (v40.toInt).toNat → M37.2.1 100 j = 0 := by
        rw [show (v40.toInt).toNat = (x1.toInt).toNat + 1 by omega]
        exact ZR_s (M1 := M37) g3 (fun i z => (W_n W36 (by omega) rfl)) (W_e W36)
      have c_43 : M37.2.1 77 28 = (N.2.1 77 28) := (W_n W36 (fun z => absurd z.1 (by decide)) rfl)
      have t_44 : (M37.2.1 77 28).toInt = (N.2.1 77 28).toInt := congrArg Int32.toInt c_43
      exact ih M37 v40 hG38 F39 (by omega) (by omega) j_42 (by omega) (by omega)
set_option maxRecDepth 4000 in
set_option maxHeartbeats 0 in
theorem C_209 {X : mm_X} {d : Nat} {M : mm_M} {Q : Option Value → mm_M → Prop} (hX : g_X X) (hd : 0 ≤ d) (hG : g_G M) (h : ∀ (r : Int32) (M1 : mm_M), g_G M1 → FR md_ga M M1 → (r.toInt = (M.2.1 77 28).toInt) → ((M1.2.1 77 41).toInt = 0) → PS M1 → Q (some (.int r)) M1) : mm_T X d 208 0 [.ref 77, .null] [] M Q := by
  have F0 : FR md_ga M M := FR.rf
  refine to_an (pc := 0) rw_209_0 rfl (to_c (pc := 1) rw_209_1 (x := (0 : Int32)) rfl rfl (s_pI (pc := 2) rw_209_2 hG rfl (fun M46 W45 => ?_)))
  have hG47 := g_wf hG W45 rfl rfl (by decide)
  have F48 := FR.w F0 W45 (show 77 = 77 ∧ (2 = 2 ∨ 2 = 41) ∨ 77 = 99 ∨ 77 = 100 by decide)
  refine to_c (pc := 5) rw_209_5 (x := (0 : Int32)) rfl rfl (to_isn (pc := 6) rw_209_6 (ls2 := [.ref 77, .int (0 : Int32)]) rfl rfl ?_)
  have k_49 : (0 : Int32).toInt = 0 := rfl
  have c_50 : M46.2.1 77 28 = (M.2.1 77 28) := (W_n W45 (by decide) rfl)
  have b_51 := g_b hG (a := 77) (i := 28) (lo := 0) (hi := 30) rfl rfl
  have t_52 : (M46.2.1 77 28).toInt = (M.2.1 77 28).toInt := congrArg Int32.toInt c_50
  exact (T_209_1 hX hd  h ((6 - (0 : Int32).toInt).toNat + 1)) M46 (0 : Int32) hG47 F48 (by omega) (by omega) (fun j z => absurd z (by omega)) (by omega) (by omega)
set_option maxRecDepth 4000 in
set_option maxHeartbeats 0 in
theorem C_210 {X : mm_X} {d : Nat} {M : mm_M} {Q : Option Value → mm_M → Prop} {p : Int32} {c : Int32} (hX : g_X X) (hd : 0 ≤ d) (hG : g_G M) (q1 : 0 ≤ p.toInt) (q2 : p.toInt ≤ 5) (q3 : 0 ≤ c.toInt) (q4 : c.toInt ≤ 29) (q5 : (M.2.1 100 (p.toInt).toNat).toInt ≤ 29) (h : ∀ (M1 : mm_M), g_G M1 → FR md_co M M1 → ((∀ i : Nat, ¬ i = (p.toInt).toNat → M1.2.1 100 i = M.2.1 100 i) ∧ (M1.2.1 100 (p.toInt).toNat).toInt = (M.2.1 100 (p.toInt).toNat).toInt + 1) → Q (none) M1) : mm_T X d 209 0 [.ref 77, .int p, .int c] [] M Q := by
  have F0 : FR md_co M M := FR.rf
  refine to_an (pc := 0) rw_210_0 rfl (s_gR (pc := 1) rw_210_1 hG rfl (v := 99) rfl (to_c (pc := 4) rw_210_4 (x := (30 : Int32)) rfl rfl (to_in (pc := 6) rw_210_6 rfl (s_mul (pc := 7) rw_210_7 (A := 30) (B := p.toInt) rfl rfl (by omega) (fun v1 e2 => to_an (pc := 8) rw_210_8 rfl (s_gR (pc := 9) rw_210_9 hG rfl (v := 100) rfl (to_in (pc := 12) rw_210_12 rfl (s_ial (pc := 13) rw_210_13 hG rfl (n := 6) rfl rfl (A := p.toInt) rfl (by omega) (by omega) (lo := 0) (hi := 30) rfl rfl (fun v3 w_4 _ _ => ?_)))))))))
  have t_5 := congrArg Int32.toInt w_4
  refine s_add (pc := 14) rw_210_14 (A := v1.toInt) (B := v3.toInt) rfl rfl (by omega) (fun v6 e7 => to_in (pc := 15) rw_210_15 rfl (s_ias (pc := 16) rw_210_16 hG rfl (n := 180) rfl (A := v6.toInt) rfl (by omega) (by omega) (fun M9 W8 => ?_)))
  have hG10 := g_w hG W8 (A := c.toInt) rfl (lo := 0) (hi := 29) rfl rfl (by omega) (by decide)
  have F11 := FR.w F0 W8 (show 99 = 99 ∨ 99 = 100 by decide)
  refine to_an (pc := 17) rw_210_17 rfl (s_gR (pc := 18) rw_210_18 hG10 rfl (v := 100) rfl (to_in (pc := 21) rw_210_21 rfl (to_dup2 (pc := 22) rw_210_22 (s_ialk (pc := 23) rw_210_23 hG10 rfl (n := 6) rfl rfl (A := p.toInt) rfl (by omega) (by omega) (v := v3) (W_n W8 (by omega) w_4) (to_c (pc := 24) rw_210_24 (x := (1 : Int32)) rfl rfl (s_add (pc := 25) rw_210_25 (A := v3.toInt) (B := 1) rfl rfl (by omega) (fun v14 e15 => s_ias (pc := 26) rw_210_26 hG10 rfl (n := 6) rfl (A := p.toInt) rfl (by omega) (by omega) (fun M17 W16 => ?_))))))))
  have hG18 := g_w hG10 W16 (A := v14.toInt) rfl (lo := 0) (hi := 30) rfl rfl (by omega) (by decide)
  have F19 := FR.w F11 W16 (show 100 = 99 ∨ 100 = 100 by decide)
  refine to_rv (pc := 27) rw_210_27 ?_
  have j_20 : M17.2.1 100 (p.toInt).toNat = v14 := (W_e W16)
  exact h M17 hG18 F19 ⟨fun i z => (W_n W16 (by omega) (W_n W8 (by omega) rfl)), by rw [j_20]; omega⟩
set_option maxRecDepth 4000 in
set_option maxHeartbeats 0 in
theorem T_216_0 {X : mm_X} {d : Nat} {M : mm_M} {Q : Option Value → mm_M → Prop} {a : Int32} (hX : g_X X) (hd : 2 ≤ d) (q1 : 0 ≤ a.toInt) (q2 : a.toInt ≤ 39) (q3 : 0 ≤ (M.2.1 102 (a.toInt).toNat).toInt) (q4 : (M.2.1 102 (a.toInt).toNat).toInt ≤ 5) (q5 : 0 ≤ (M.2.1 103 (a.toInt).toNat).toInt) (q6 : 0 ≤ (M.2.1 104 (a.toInt).toNat).toInt) (q7 : PS M) (h : ∀ (M1 : mm_M), g_G M1 → FR md_pa M M1 → PS M1 → Q (none) M1) : ∀ nn9 : Nat, (∀ (N : mm_M) (y2 : Int64) (u4 : Value) (x5 : Int32) (x6 : Int32), g_G N → FR md_pa M N → (0 ≤ x6.toInt) → (x6.toInt ≤ 30) → (0 ≤ x5.toInt) → (x5.toInt ≤ 30) → (x6.toInt ≤ x5.toInt) → (PSm N + (x5.toInt - x6.toInt) ≤ (N.2.1 77 28).toInt) → (0 ≤ (N.2.1 102 (a.toInt).toNat).toInt) → ((N.2.1 102 (a.toInt).toNat).toInt ≤ 5) → (0 ≤ (N.2.1 103 (a.toInt).toNat).toInt) → (0 ≤ (N.2.1 104 (a.toInt).toNat).toInt) → 30 - x6.toInt < (nn9 : Int) → mm_T X d 215 118 [.ref 77, .int a, .long y2, .null, u4, .int x5, .int x6] [] N Q) := by
  intro nn9
  induction nn9 with
  | zero =>
    intro N y2 u4 x5 x6 hG F0 g1 g2 g3 g4 g5 g6 g7 g8 g9 g10 hm
    exfalso; omega
  | succ nn9 ih =>
    intro N y2 u4 x5 x6 hG F0 g1 g2 g3 g4 g5 g6 g7 g8 g9 g10 hm
    have b_1 := g_b hG (a := 77) (i := 28) (lo := 0) (hi := 30) rfl rfl
    refine to_i (pc := 118) rw_216_118 rfl (to_i (pc := 120) rw_216_120 rfl (b_cge (pc := 122) rw_216_122 (A := x6.toInt) (B := x5.toInt) rfl rfl (fun h2 => ?_) (fun h2 => ?_)))
    · refine to_an (pc := 172) rw_216_172 rfl (to_dupr (pc := 173) rw_216_173 (tt_gI (pc := 174) rw_216_174 (g_o hG rfl) (v := (N.2.1 77 42)) rfl (to_c (pc := 177) rw_216_177 (x := (1 : Int32)) rfl rfl (s_any (pc := 178) rw_216_178 (fun _ _ => rfl) (fun v3 => s_pI (pc := 179) rw_216_179 hG rfl (fun M5 W4 => ?_))))))
      have hG6 := g_wf hG W4 rfl rfl (by decide)
      have F7 := FR.w F0 W4 (show 77 = 77 ∧ 42 = 42 ∨ 77 = 99 ∨ 77 = 100 ∨ 77 = 109 by decide)
      refine to_rv (pc := 182) rw_216_182 ?_
      have s_8 : PSm M5 = PSm N := PSm_f (fun i => W_n W4 (by omega) rfl)
      have c_9 : M5.2.1 77 28 = (N.2.1 77 28) := (W_n W4 (by decide) rfl)
      have t_10 : (M5.2.1 77 28).toInt = (N.2.1 77 28).toInt := congrArg Int32.toInt c_9
      have j_11 : PS M5 := PS_i (by omega)
      exact h M5 hG6 F7 j_11
    · refine to_an (pc := 125) rw_216_125 rfl (to_an (pc := 126) rw_216_126 rfl (to_an (pc := 127) rw_216_127 rfl (s_gR (pc := 128) rw_216_128 hG rfl (v := 109) rfl (to_i (pc := 131) rw_216_131 rfl (s_ial (pc := 133) rw_216_133 hG rfl (n := 30) rfl rfl (A := x6.toInt) rfl (by omega) (by omega) (lo := 0) (hi := 29) rfl rfl (fun v12 w_13 _ _ => to_ln (pc := 134) rw_216_134 rfl rfl rfl (s_v (pc := 135) rw_216_135 (dp0 hd (by decide)) (ls0 := [.ref 77, .int v12, .long y2, .null, .null]) rfl (Nat.le_of_ble_eq_true rfl) (Nat.le_of_ble_eq_true rfl) rfl (to_rc rfl rfl rfl (g_o hG rfl)) rfl (C_207 hX (dp1 hd (by decide)) hG (by omega) (by omega) (c := v12) (x := y2) (fun r14 M19 hG16 F15 p_17 p_18 => ?_)))))))))
      have F20 := FR.c F0 F15 tg_265
      refine b_ieq (pc := 138) rw_216_138 (A := r14.toInt) rfl (fun h21 => ?_) (fun h21 => ?_)
      · refine to_an (pc := 150) rw_216_150 rfl (s_gR (pc := 151) rw_216_151 hG16 rfl (v := 104) rfl (to_in (pc := 154) rw_216_154 rfl (s_ial (pc := 155) rw_216_155 hG16 rfl (n := 40) rfl rfl (A := a.toInt) rfl (by omega) (by omega) (lo := -1) (hi := 5) rfl rfl (fun v22 w_23 _ _ => ?_))))
        have t_24 := congrArg Int32.toInt w_23
        have t_25 : (M19.2.1 104 (a.toInt).toNat).toInt = (N.2.1 104 (a.toInt).toNat).toInt := congrArg Int32.toInt (F_n F15 (show ¬ (104 < 0) by decide) rfl)
        refine to_an (pc := 156) rw_216_156 rfl (s_gR (pc := 157) rw_216_157 hG16 rfl (v := 109) rfl (to_i (pc := 160) rw_216_160 rfl (s_ialk (pc := 162) rw_216_162 hG16 rfl (n := 30) rfl rfl (A := x6.toInt) rfl (by omega) (by omega) (v := v12) (F_n F15 (show ¬ (109 < 0) by decide) w_13) (s_v (pc := 163) rw_216_163 (dp0 hd (by decide)) (ls0 := [.ref 77, .int v22, .int v12]) rfl (Nat.le_of_ble_eq_true rfl) (Nat.le_of_ble_eq_true rfl) rfl (to_rc rfl rfl rfl (g_o hG16 rfl)) rfl ?_))))
        have s_28 : PSm M19 = PSm N := PSm_f (fun i => F_n F15 (show ¬ (100 < 0) by decide) rfl)
        have s_29 := PSm_le hG16 (p := (v22.toInt).toNat) (by omega)
        have t_30 : (M19.2.1 100 (v22.toInt).toNat).toInt = (N.2.1 100 (v22.toInt).toNat).toInt := congrArg Int32.toInt (F_n F15 (show ¬ (100 < 0) by decide) rfl)
        refine C_210 hX (dp1 hd (by decide)) hG16 (by omega) (by omega) (by omega) (by omega) (by omega) (p := v22) (c := v12) (fun M34 hG32 F31 p_33 => ?_)
        have F35 := FR.c F20 F31 tg_266
        have s_36 : PSm M34 = PSm M19 - (M19.2.1 100 (v22.toInt).toNat).toInt + (M34.2.1 100 (v22.toInt).toNat).toInt := PSm_set (by omega) p_33.1
        have s_37 := p_33.2
        refine s_inc (pc := 166) rw_216_166 (ls2 := fun v => [.ref 77, .int a, .long y2, .null, u4, .int x5, .int v]) rfl rfl (fun _ => rfl) (A := x6.toInt) (B := 1) rfl rfl (by omega) (fun v38 e39 => to_go (pc := 169) rw_216_169 ?_)
        have c_40 : M34.2.1 77 28 = (N.2.1 77 28) := (F_n F31 (show ¬ (77 = 99 ∨ 77 = 100) by decide) (F_n F15 (show ¬ (77 < 0) by decide) rfl))
        have t_41 : (M34.2.1 77 28).toInt = (N.2.1 77 28).toInt := congrArg Int32.toInt c_40
        have t_42 : (M34.2.1 102 (a.toInt).toNat).toInt = (N.2.1 102 (a.toInt).toNat).toInt := congrArg Int32.toInt (F_n F31 (show ¬ (102 = 99 ∨ 102 = 100) by decide) (F_n F15 (show ¬ (102 < 0) by decide) rfl))
        have t_43 : (M34.2.1 102 (a.toInt).toNat).toInt = (N.2.1 102 (a.toInt).toNat).toInt := congrArg Int32.toInt (F_n F31 (show ¬ (102 = 99 ∨ 102 = 100) by decide) (F_n F15 (show ¬ (102 < 0) by decide) rfl))
        have t_44 : (M34.2.1 103 (a.toInt).toNat).toInt = (N.2.1 103 (a.toInt).toNat).toInt := congrArg Int32.toInt (F_n F31 (show ¬ (103 = 99 ∨ 103 = 100) by decide) (F_n F15 (show ¬ (103 < 0) by decide) rfl))
        have t_45 : (M34.2.1 104 (a.toInt).toNat).toInt = (N.2.1 104 (a.toInt).toNat).toInt := congrArg Int32.toInt (F_n F31 (show ¬ (104 = 99 ∨ 104 = 100) by decide) (F_n F15 (show ¬ (104 < 0) by decide) rfl))
        exact ih M34 y2 (u4) x5 v38 hG32 F35 (by omega) (by omega) (by omega) (by omega) (by omega) (by omega) (by omega) (by omega) (by omega) (by omega) (by omega)
      · refine to_an (pc := 141) rw_216_141 rfl (s_gR (pc := 142) rw_216_142 hG16 rfl (v := 103) rfl (to_in (pc := 145) rw_216_145 rfl (s_ial (pc := 146) rw_216_146 hG16 rfl (n := 40) rfl rfl (A := a.toInt) rfl (by omega) (by omega) (lo := -1) (hi := 5) rfl rfl (fun v46 w_47 _ _ => ?_))))
        have t_48 := congrArg Int32.toInt w_47
        have t_49 : (M19.2.1 103 (a.toInt).toNat).toInt = (N.2.1 103 (a.toInt).toNat).toInt := congrArg Int32.toInt (F_n F15 (show ¬ (103 < 0) by decide) rfl)
        refine to_go (pc := 147) rw_216_147 (to_an (pc := 156) rw_216_156 rfl (s_gR (pc := 157) rw_216_157 hG16 rfl (v := 109) rfl (to_i (pc := 160) rw_216_160 rfl (s_ialk (pc := 162) rw_216_162 hG16 rfl (n := 30) rfl rfl (A := x6.toInt) rfl (by omega) (by omega) (v := v12) (F_n F15 (show ¬ (109 < 0) by decide) w_13) (s_v (pc := 163) rw_216_163 (dp0 hd (by decide)) (ls0 := [.ref 77, .int v46, .int v12]) rfl (Nat.le_of_ble_eq_true rfl) (Nat.le_of_ble_eq_true rfl) rfl (to_rc rfl rfl rfl (g_o hG16 rfl)) rfl ?_)))))
        have s_52 : PSm M19 = PSm N := PSm_f (fun i => F_n F15 (show ¬ (100 < 0) by decide) rfl)
        have s_53 := PSm_le hG16 (p := (v46.toInt).toNat) (by omega)
        have t_54 : (M19.2.1 100 (v46.toInt).toNat).toInt = (N.2.1 100 (v46.toInt).toNat).toInt := congrArg Int32.toInt (F_n F15 (show ¬ (100 < 0) by decide) rfl)
        refine C_210 hX (dp1 hd (by decide)) hG16 (by omega) (by omega) (by omega) (by omega) (by omega) (p := v46) (c := v12) (fun M58 hG56 F55 p_57 => ?_)
        have F59 := FR.c F20 F55 tg_266
        have s_60 : PSm M58 = PSm M19 - (M19.2.1 100 (v46.toInt).toNat).toInt + (M58.2.1 100 (v46.toInt).toNat).toInt := PSm_set (by omega) p_57.1
        have s_61 := p_57.2
        refine s_inc (pc := 166) rw_216_166 (ls2 := fun v => [.ref 77, .int a, .long y2, .null, u4, .int x5, .int v]) rfl rfl (fun _ => rfl) (A := x6.toInt) (B := 1) rfl rfl (by omega) (fun v62 e63 => to_go (pc := 169) rw_216_169 ?_)
        have c_64 : M58.2.1 77 28 = (N.2.1 77 28) := (F_n F55 (show ¬ (77 = 99 ∨ 77 = 100) by decide) (F_n F15 (show ¬ (77 < 0) by decide) rfl))
        have t_65 : (M58.2.1 77 28).toInt = (N.2.1 77 28).toInt := congrArg Int32.toInt c_64
        have t_66 : (M58.2.1 102 (a.toInt).toNat).toInt = (N.2.1 102 (a.toInt).toNat).toInt := congrArg Int32.toInt (F_n F55 (show ¬ (102 = 99 ∨ 102 = 100) by decide) (F_n F15 (show ¬ (102 < 0) by decide) rfl))
        have t_67 : (M58.2.1 102 (a.toInt).toNat).toInt = (N.2.1 102 (a.toInt).toNat).toInt := congrArg Int32.toInt (F_n F55 (show ¬ (102 = 99 ∨ 102 = 100) by decide) (F_n F15 (show ¬ (102 < 0) by decide) rfl))
        have t_68 : (M58.2.1 103 (a.toInt).toNat).toInt = (N.2.1 103 (a.toInt).toNat).toInt := congrArg Int32.toInt (F_n F55 (show ¬ (103 = 99 ∨ 103 = 100) by decide) (F_n F15 (show ¬ (103 < 0) by decide) rfl))
        have t_69 : (M58.2.1 104 (a.toInt).toNat).toInt = (N.2.1 104 (a.toInt).toNat).toInt := congrArg Int32.toInt (F_n F55 (show ¬ (104 = 99 ∨ 104 = 100) by decide) (F_n F15 (show ¬ (104 < 0) by decide) rfl))
        exact ih M58 y2 (u4) x5 v62 hG56 F59 (by omega) (by omega) (by omega) (by omega) (by omega) (by omega) (by omega) (by omega) (by omega) (by omega) (by omega)
set_option maxRecDepth 4000 in
set_option maxHeartbeats 0 in
theorem T_216_1 {X : mm_X} {d : Nat} {M : mm_M} {Q : Option Value → mm_M → Prop} {a : Int32} (hX : g_X X) (hd : 2 ≤ d) (q1 : 0 ≤ a.toInt) (q2 : a.toInt ≤ 39) (q3 : 0 ≤ (M.2.1 102 (a.toInt).toNat).toInt) (q4 : (M.2.1 102 (a.toInt).toNat).toInt ≤ 5) (q5 : 0 ≤ (M.2.1 103 (a.toInt).toNat).toInt) (q6 : 0 ≤ (M.2.1 104 (a.toInt).toNat).toInt) (q7 : PS M) (h : ∀ (M1 : mm_M), g_G M1 → FR md_pa M M1 → PS M1 → Q (none) M1) : ∀ nn9 : Nat, (∀ (N : mm_M) (y2 : Int64) (x4 : Int32) (x5 : Int32) (x6 : Int32), g_G N → FR md_pa M N → (0 ≤ x6.toInt) → (x6.toInt ≤ 30) → (0 ≤ x5.toInt) → (x5.toInt ≤ 30) → (0 ≤ x4.toInt) → (x4.toInt ≤ 5) → ((N.2.1 100 (x4.toInt).toNat).toInt = x5.toInt) → (PS N) → (0 ≤ (N.2.1 102 (a.toInt).toNat).toInt) → ((N.2.1 102 (a.toInt).toNat).toInt ≤ 5) → (0 ≤ (N.2.1 103 (a.toInt).toNat).toInt) → (0 ≤ (N.2.1 104 (a.toInt).toNat).toInt) → 30 - x6.toInt < (nn9 : Int) → mm_T X d 215 74 [.ref 77, .int a, .long y2, .null, .int x4, .int x5, .int x6] [] N Q) := by
  intro nn9
  induction nn9 with
  | zero =>
    intro N y2 x4 x5 x6 hG F0 g1 g2 g3 g4 g5 g6 g7 g8 g9 g10 g11 g12 hm
    exfalso; omega
  | succ nn9 ih =>
    intro N y2 x4 x5 x6 hG F0 g1 g2 g3 g4 g5 g6 g7 g8 g9 g10 g11 g12 hm
    have b_70 := g_b hG (a := 77) (i := 28) (lo := 0) (hi := 30) rfl rfl
    have s_71 := PS_e g8
    refine to_i (pc := 74) rw_216_74 rfl (to_i (pc := 76) rw_216_76 rfl (b_cge (pc := 78) rw_216_78 (A := x6.toInt) (B := x5.toInt) rfl rfl (fun h72 => ?_) (fun h72 => ?_)))
    · refine to_an (pc := 107) rw_216_107 rfl (s_gR (pc := 108) rw_216_108 hG rfl (v := 100) rfl (to_i (pc := 111) rw_216_111 rfl (to_c (pc := 113) rw_216_113 (x := (0 : Int32)) rfl rfl (s_ias (pc := 114) rw_216_114 hG rfl (n := 6) rfl (A := x4.toInt) rfl (by omega) (by omega) (fun M74 W73 => ?_)))))
      have hG75 := g_w hG W73 (A := 0) rfl (lo := 0) (hi := 30) rfl rfl (by omega) (by decide)
      have F76 := FR.w F0 W73 (show 100 = 77 ∧ (x4.toInt).toNat = 42 ∨ 100 = 99 ∨ 100 = 100 ∨ 100 = 109 by omega)
      refine to_c (pc := 115) rw_216_115 (x := (0 : Int32)) rfl rfl (to_is (pc := 116) rw_216_116 (ls2 := [.ref 77, .int a, .long y2, .null, .int x4, .int x5, .int (0 : Int32)]) rfl rfl ?_)
      have k_77 : (0 : Int32).toInt = 0 := rfl
      have s_78 : PSm M74 = PSm N - (N.2.1 100 (x4.toInt).toNat).toInt + (M74.2.1 100 (x4.toInt).toNat).toInt := PSm_set (by omega) (fun i z => W_n W73 (by omega) rfl)
      have s_79 : (M74.2.1 100 (x4.toInt).toNat).toInt = (0 : Int32).toInt := congrArg Int32.toInt (W_e W73)
      have c_80 : M74.2.1 77 28 = (N.2.1 77 28) := (W_n W73 (fun z => absurd z.1 (by decide)) rfl)
      have t_81 : (M74.2.1 77 28).toInt = (N.2.1 77 28).toInt := congrArg Int32.toInt c_80
      have t_82 : (M74.2.1 102 (a.toInt).toNat).toInt = (N.2.1 102 (a.toInt).toNat).toInt := congrArg Int32.toInt (W_n W73 (by omega) rfl)
      have t_83 : (M74.2.1 102 (a.toInt).toNat).toInt = (N.2.1 102 (a.toInt).toNat).toInt := congrArg Int32.toInt (W_n W73 (by omega) rfl)
      have t_84 : (M74.2.1 103 (a.toInt).toNat).toInt = (N.2.1 103 (a.toInt).toNat).toInt := congrArg Int32.toInt (W_n W73 (by omega) rfl)
      have t_85 : (M74.2.1 104 (a.toInt).toNat).toInt = (N.2.1 104 (a.toInt).toNat).toInt := congrArg Int32.toInt (W_n W73 (by omega) rfl)
      exact (T_216_0 (a := a) hX hd q1 q2 q3 q4 q5 q6 q7 h ((30 - (0 : Int32).toInt).toNat + 1)) M74 y2 (.int x4) x5 (0 : Int32) hG75 F76 (by omega) (by omega) (by omega) (by omega) (by omega) (by omega) (by omega) (by omega) (by omega) (by omega) (by omega)
    · refine to_an (pc := 81) rw_216_81 rfl (s_gR (pc := 82) rw_216_82 hG rfl (v := 109) rfl (to_i (pc := 85) rw_216_85 rfl (to_an (pc := 87) rw_216_87 rfl (s_gR (pc := 88) rw_216_88 hG rfl (v := 99) rfl (to_c (pc := 91) rw_216_91 (x := (30 : Int32)) rfl rfl (to_i (pc := 93) rw_216_93 rfl (s_mul (pc := 95) rw_216_95 (A := 30) (B := x4.toInt) rfl rfl (by omega) (fun v86 e87 => to_i (pc := 96) rw_216_96 rfl (s_add (pc := 98) rw_216_98 (A := v86.toInt) (B := x6.toInt) rfl rfl (by omega) (fun v88 e89 => s_ial (pc := 99) rw_216_99 hG rfl (n := 180) rfl rfl (A := v88.toInt) rfl (by omega) (by omega) (lo := 0) (hi := 29) rfl rfl (fun v90 w_91 _ _ => s_ias (pc := 100) rw_216_100 hG rfl (n := 30) rfl (A := x6.toInt) rfl (by omega) (by omega) (fun M93 W92 => ?_))))))))))))
      have hG94 := g_w hG W92 (A := v90.toInt) rfl (lo := 0) (hi := 29) rfl rfl (by omega) (by decide)
      have F95 := FR.w F0 W92 (show 109 = 77 ∧ (x6.toInt).toNat = 42 ∨ 109 = 99 ∨ 109 = 100 ∨ 109 = 109 by omega)
      refine s_inc (pc := 101) rw_216_101 (ls2 := fun v => [.ref 77, .int a, .long y2, .null, .int x4, .int x5, .int v]) rfl rfl (fun _ => rfl) (A := x6.toInt) (B := 1) rfl rfl (by omega) (fun v96 e97 => to_go (pc := 104) rw_216_104 ?_)
      have t_98 : (M93.2.1 100 (x4.toInt).toNat).toInt = (N.2.1 100 (x4.toInt).toNat).toInt := congrArg Int32.toInt (W_n W92 (by omega) rfl)
      have j_99 := (PS_f (fun a i z => W_n W92 (tg_269 a i _ z) rfl) g8)
      have t_100 : (M93.2.1 102 (a.toInt).toNat).toInt = (N.2.1 102 (a.toInt).toNat).toInt := congrArg Int32.toInt (W_n W92 (by omega) rfl)
      have t_101 : (M93.2.1 102 (a.toInt).toNat).toInt = (N.2.1 102 (a.toInt).toNat).toInt := congrArg Int32.toInt (W_n W92 (by omega) rfl)
      have t_102 : (M93.2.1 103 (a.toInt).toNat).toInt = (N.2.1 103 (a.toInt).toNat).toInt := congrArg Int32.toInt (W_n W92 (by omega) rfl)
      have t_103 : (M93.2.1 104 (a.toInt).toNat).toInt = (N.2.1 104 (a.toInt).toNat).toInt := congrArg Int32.toInt (W_n W92 (by omega) rfl)
      exact ih M93 y2 x4 x5 v96 hG94 F95 (by omega) (by omega) (by omega) (by omega) (by omega) (by omega) (by omega) j_99 (by omega) (by omega) (by omega) (by omega) (by omega)
set_option maxRecDepth 4000 in
set_option maxHeartbeats 0 in
theorem T_216_2 {X : mm_X} {d : Nat} {M : mm_M} {Q : Option Value → mm_M → Prop} {a : Int32} (hX : g_X X) (hd : 2 ≤ d) (q1 : 0 ≤ a.toInt) (q2 : a.toInt ≤ 39) (q3 : 0 ≤ (M.2.1 102 (a.toInt).toNat).toInt) (q4 : (M.2.1 102 (a.toInt).toNat).toInt ≤ 5) (q5 : 0 ≤ (M.2.1 103 (a.toInt).toNat).toInt) (q6 : 0 ≤ (M.2.1 104 (a.toInt).toNat).toInt) (q7 : PS M) (h : ∀ (M1 : mm_M), g_G M1 → FR md_pa M M1 → PS M1 → Q (none) M1) : ∀ nn9 : Nat, (∀ (N : mm_M) (y2 : Int64) (x4 : Int32) (u5 : Value) (u6 : Value), g_G N → FR md_pa M N → (0 ≤ x4.toInt) → (x4.toInt ≤ 12) → (PS N) → (0 ≤ (N.2.1 102 (a.toInt).toNat).toInt) → ((N.2.1 102 (a.toInt).toNat).toInt ≤ 5) → (0 ≤ (N.2.1 103 (a.toInt).toNat).toInt) → (0 ≤ (N.2.1 104 (a.toInt).toNat).toInt) → 12 - x4.toInt < (nn9 : Int) → mm_T X d 215 10 [.ref 77, .int a, .long y2, .null, .int x4, u5, u6] [] N Q) := by
  intro nn9
  induction nn9 with
  | zero =>
    intro N y2 x4 u5 u6 hG F0 g1 g2 g3 g4 g5 g6 g7 hm
    exfalso; omega
  | succ nn9 ih =>
    intro N y2 x4 u5 u6 hG F0 g1 g2 g3 g4 g5 g6 g7 hm
    have b_104 := g_b hG (a := 77) (i := 28) (lo := 0) (hi := 30) rfl rfl
    have s_105 := PS_e g3
    refine to_i (pc := 10) rw_216_10 rfl (to_an (pc := 12) rw_216_12 rfl ?_)
    have b_106 := g_b hG (a := 77) (i := 13) (lo := 0) (hi := 12) rfl rfl
    refine tt_gI (pc := 13) rw_216_13 (g_o hG rfl) (v := (N.2.1 77 13)) rfl (b_cge (pc := 16) rw_216_16 (A := x4.toInt) (B := (N.2.1 77 13).toInt) rfl rfl (fun h107 => ?_) (fun h107 => ?_))
    · refine to_an (pc := 54) rw_216_54 rfl (s_gR (pc := 55) rw_216_55 hG rfl (v := 102) rfl (to_in (pc := 58) rw_216_58 rfl (s_ial (pc := 59) rw_216_59 hG rfl (n := 40) rfl rfl (A := a.toInt) rfl (by omega) (by omega) (lo := -1) (hi := 99) rfl rfl (fun v108 w_109 _ _ => ?_))))
      have t_110 := congrArg Int32.toInt w_109
      refine to_is (pc := 60) rw_216_60 (ls2 := [.ref 77, .int a, .long y2, .null, .int v108, u5, u6]) rfl rfl (to_an (pc := 62) rw_216_62 rfl (s_gR (pc := 63) rw_216_63 hG rfl (v := 100) rfl (to_i (pc := 66) rw_216_66 rfl (s_ial (pc := 68) rw_216_68 hG rfl (n := 6) rfl rfl (A := v108.toInt) rfl (by omega) (by omega) (lo := 0) (hi := 30) rfl rfl (fun v111 w_112 _ _ => ?_)))))
      have t_113 := congrArg Int32.toInt w_112
      refine to_is (pc := 69) rw_216_69 (ls2 := [.ref 77, .int a, .long y2, .null, .int v108, .int v111, u6]) rfl rfl (to_c (pc := 71) rw_216_71 (x := (0 : Int32)) rfl rfl (to_is (pc := 72) rw_216_72 (ls2 := [.ref 77, .int a, .long y2, .null, .int v108, .int v111, .int (0 : Int32)]) rfl rfl ?_))
      have k_114 : (0 : Int32).toInt = 0 := rfl
      exact (T_216_1 (a := a) hX hd q1 q2 q3 q4 q5 q6 q7 h ((30 - (0 : Int32).toInt).toNat + 1)) N y2 v108 v111 (0 : Int32) hG F0 (by omega) (by omega) (by omega) (by omega) (by omega) (by omega) (by omega) g3 (by omega) (by omega) (by omega) (by omega) (by omega)
    · refine to_ln (pc := 19) rw_216_19 rfl rfl rfl (to_an (pc := 20) rw_216_20 rfl (s_gR (pc := 21) rw_216_21 hG rfl (v := 107) rfl (to_in (pc := 24) rw_216_24 rfl (s_ial (pc := 25) rw_216_25 hG rfl (n := 40) rfl rfl (A := a.toInt) rfl (by omega) (by omega) (lo := -2147483648) (hi := 2147483647) rfl rfl (fun v115 w_116 _ _ => to_i (pc := 26) rw_216_26 rfl (s_any (pc := 28) rw_216_28 (fun _ _ => rfl) (fun v117 => to_c (pc := 29) rw_216_29 (x := (1 : Int32)) rfl rfl (s_and (pc := 30) rw_216_30 (B := 1) rfl (by omega) (fun v118 e119 _ _ => to_c (pc := 31) rw_216_31 (x := (1 : Int32)) rfl rfl (b_cne (pc := 32) rw_216_32 (A := v118.toInt) (B := 1) rfl rfl (fun h120 => ?_) (fun h120 => ?_)))))))))))
      · refine s_cl (pc := 45) rw_216_45 rfl (fun l121 => s_anyL (pc := 46) rw_216_46 (fun _ _ => rfl) (fun l122 => to_lsn (pc := 47) rw_216_47 (ls2 := [.ref 77, .int a, .long l122, .null, .int x4, u5, u6]) rfl rfl (s_inc (pc := 48) rw_216_48 (ls2 := fun v => [.ref 77, .int a, .long l122, .null, .int v, u5, u6]) rfl rfl (fun _ => rfl) (A := x4.toInt) (B := 1) rfl rfl (by omega) (fun v123 e124 => to_go (pc := 51) rw_216_51 ?_))))
        exact ih N l122 v123 (u5) (u6) hG F0 (by omega) (by omega) g3 (by omega) (by omega) (by omega) (by omega) (by omega)
      · refine to_an (pc := 35) rw_216_35 rfl (s_gR (pc := 36) rw_216_36 hG rfl (v := 95) rfl (to_i (pc := 39) rw_216_39 rfl (s_lal (pc := 41) rw_216_41 hG rfl (n := 12) rfl (A := x4.toInt) rfl (by omega) (by omega) (fun l125 => to_go (pc := 42) rw_216_42 (s_anyL (pc := 46) rw_216_46 (fun _ _ => rfl) (fun l126 => to_lsn (pc := 47) rw_216_47 (ls2 := [.ref 77, .int a, .long l126, .null, .int x4, u5, u6]) rfl rfl (s_inc (pc := 48) rw_216_48 (ls2 := fun v => [.ref 77, .int a, .long l126, .null, .int v, u5, u6]) rfl rfl (fun _ => rfl) (A := x4.toInt) (B := 1) rfl rfl (by omega) (fun v127 e128 => to_go (pc := 51) rw_216_51 ?_))))))))
        exact ih N l126 v127 (u5) (u6) hG F0 (by omega) (by omega) g3 (by omega) (by omega) (by omega) (by omega) (by omega)
set_option maxRecDepth 4000 in
set_option maxHeartbeats 0 in
theorem C_216 {X : mm_X} {d : Nat} {M : mm_M} {Q : Option Value → mm_M → Prop} {a : Int32} (hX : g_X X) (hd : 2 ≤ d) (hG : g_G M) (q1 : 0 ≤ a.toInt) (q2 : a.toInt ≤ 39) (q3 : 0 ≤ (M.2.1 102 (a.toInt).toNat).toInt) (q4 : (M.2.1 102 (a.toInt).toNat).toInt ≤ 5) (q5 : 0 ≤ (M.2.1 103 (a.toInt).toNat).toInt) (q6 : 0 ≤ (M.2.1 104 (a.toInt).toNat).toInt) (q7 : PS M) (h : ∀ (M1 : mm_M), g_G M1 → FR md_pa M M1 → PS M1 → Q (none) M1) : mm_T X d 215 0 [.ref 77, .int a, .null, .null, .null, .null, .null] [] M Q := by
  have F0 : FR md_pa M M := FR.rf
  have b_129 := g_b hG (a := 77) (i := 28) (lo := 0) (hi := 30) rfl rfl
  have s_130 := PS_e q7
  refine to_an (pc := 0) rw_216_0 rfl (s_gR (pc := 1) rw_216_1 hG rfl (v := 106) rfl (to_in (pc := 4) rw_216_4 rfl (s_lal (pc := 5) rw_216_5 hG rfl (n := 40) rfl (A := a.toInt) rfl (by omega) (by omega) (fun l131 => to_lsn (pc := 6) rw_216_6 (ls2 := [.ref 77, .int a, .long l131, .null, .null, .null, .null]) rfl rfl (to_c (pc := 7) rw_216_7 (x := (0 : Int32)) rfl rfl (to_is (pc := 8) rw_216_8 (ls2 := [.ref 77, .int a, .long l131, .null, .int (0 : Int32), .null, .null]) rfl rfl ?_))))))
  have k_132 : (0 : Int32).toInt = 0 := rfl
  exact (T_216_2 (a := a) hX hd q1 q2 q3 q4 q5 q6 q7 h ((12 - (0 : Int32).toInt).toNat + 1)) M l131 (0 : Int32) (.null) (.null) hG F0 (by omega) (by omega) q7 (by omega) (by omega) (by omega) (by omega) (by omega)
set_option maxRecDepth 4000 in
set_option maxHeartbeats 0 in
theorem T_217_0 {X : mm_X} {d : Nat} {M : mm_M} {Q : Option Value → mm_M → Prop} {a : Int32} {o : Int32} {t : Int32} (hX : g_X X) (hd : 1 ≤ d) (q1 : 0 ≤ a.toInt) (q2 : a.toInt ≤ 39) (q3 : M.2.1 103 (a.toInt).toNat = t) (q4 : M.2.1 102 (a.toInt).toNat = o) (q5 : 0 ≤ o.toInt) (q6 : o.toInt ≤ 5) (q7 : 0 ≤ t.toInt) (q8 : t.toInt ≤ 5) (q9 : ¬ o.toInt = t.toInt) (q10 : PS M) (h : ∀ (M1 : mm_M), g_G M1 → FR md_co M M1 → PS M1 → Q (none) M1) : ∀ nn9 : Nat, (∀ (N : mm_M) (x2 : Int32) (x3 : Int32), g_G N → FR md_co M N → (0 ≤ x3.toInt) → (x3.toInt ≤ 30) → (x2.toInt = o.toInt) → (0 ≤ x2.toInt) → (x2.toInt ≤ 5) → (N.2.1 103 (a.toInt).toNat = t) → (N.2.1 102 (a.toInt).toNat = o) → (PSm N = PSm M + x3.toInt ∧ (N.2.1 100 (o.toInt).toNat).toInt = (M.2.1 100 (o.toInt).toNat).toInt ∧ (N.2.1 100 (t.toInt).toNat).toInt = (M.2.1 100 (t.toInt).toNat).toInt + x3.toInt ∧ x3.toInt ≤ (M.2.1 100 (o.toInt).toNat).toInt) → 30 - x3.toInt < (nn9 : Int) → mm_T X d 216 9 [.ref 77, .int a, .int x2, .int x3] [] N Q) := by
  intro nn9
  induction nn9 with
  | zero =>
    intro N x2 x3 hG F0 g1 g2 g3 g4 g5 g6 g7 g8 hm
    exfalso; omega
  | succ nn9 ih =>
    intro N x2 x3 hG F0 g1 g2 g3 g4 g5 g6 g7 g8 hm
    have b_1 := g_b hG (a := 77) (i := 28) (lo := 0) (hi := 30) rfl rfl
    have s_2 := PS_e q10
    have s_3 : (N.2.1 77 28).toInt = (M.2.1 77 28).toInt := congrArg Int32.toInt (F0.2.2 77 28 (show ¬ (77 = 99 ∨ 77 = 100) by decide)).1
    obtain ⟨s_a, s_b, s_c, s_d⟩ := g8
    have s_e := PSm_le2 hG (p := (o.toInt).toNat) (q := (t.toInt).toNat) (by omega) (by omega) (by omega)
    refine to_in (pc := 9) rw_217_9 rfl (to_an (pc := 10) rw_217_10 rfl (s_gR (pc := 11) rw_217_11 hG rfl (v := 100) rfl (to_in (pc := 14) rw_217_14 rfl (s_ial (pc := 15) rw_217_15 hG rfl (n := 6) rfl rfl (A := x2.toInt) rfl (by omega) (by omega) (lo := 0) (hi := 30) rfl rfl (fun v4 w_5 _ _ => ?_)))))
    have t_6 := congrArg Int32.toInt w_5
    have s_7 : (N.2.1 100 (x2.toInt).toNat).toInt = (N.2.1 100 (o.toInt).toNat).toInt := by rw [show x2.toInt = o.toInt by omega]
    refine b_cge (pc := 16) rw_217_16 (A := x3.toInt) (B := v4.toInt) rfl rfl (fun h8 => ?_) (fun h8 => ?_)
    · refine to_an (pc := 46) rw_217_46 rfl (s_gR (pc := 47) rw_217_47 hG rfl (v := 100) rfl (to_in (pc := 50) rw_217_50 rfl (to_c (pc := 51) rw_217_51 (x := (0 : Int32)) rfl rfl (s_ias (pc := 52) rw_217_52 hG rfl (n := 6) rfl (A := x2.toInt) rfl (by omega) (by omega) (fun M10 W9 => ?_)))))
      have hG11 := g_w hG W9 (A := 0) rfl (lo := 0) (hi := 30) rfl rfl (by omega) (by decide)
      have F12 := FR.w F0 W9 (show 100 = 99 ∨ 100 = 100 by decide)
      have s_13 : (N.2.1 100 (x2.toInt).toNat).toInt = (N.2.1 100 (o.toInt).toNat).toInt := by rw [show x2.toInt = o.toInt by omega]
      refine to_rv (pc := 53) rw_217_53 ?_
      have s_14 : PSm M10 = PSm N - (N.2.1 100 (x2.toInt).toNat).toInt + (M10.2.1 100 (x2.toInt).toNat).toInt := PSm_set (by omega) (fun i z => W_n W9 (by omega) rfl)
      have s_15 : (M10.2.1 100 (x2.toInt).toNat).toInt = (0 : Int32).toInt := congrArg Int32.toInt (W_e W9)
      have k_16 : (0 : Int32).toInt = 0 := rfl
      have c_17 : M10.2.1 77 28 = (N.2.1 77 28) := (W_n W9 (fun z => absurd z.1 (by decide)) rfl)
      have t_18 : (M10.2.1 77 28).toInt = (N.2.1 77 28).toInt := congrArg Int32.toInt c_17
      have j_19 : PS M10 := PS_i (by omega)
      exact h M10 hG11 F12 j_19
    · refine to_an (pc := 19) rw_217_19 rfl (to_an (pc := 20) rw_217_20 rfl (s_gR (pc := 21) rw_217_21 hG rfl (v := 103) rfl (to_in (pc := 24) rw_217_24 rfl (s_ialk (pc := 25) rw_217_25 hG rfl (n := 40) rfl rfl (A := a.toInt) rfl (by omega) (by omega) (v := t) g6 (to_an (pc := 26) rw_217_26 rfl (s_gR (pc := 27) rw_217_27 hG rfl (v := 99) rfl (to_c (pc := 30) rw_217_30 (x := (30 : Int32)) rfl rfl (to_in (pc := 32) rw_217_32 rfl (s_mul (pc := 33) rw_217_33 (A := 30) (B := x2.toInt) rfl rfl (by omega) (fun v22 e23 => to_in (pc := 34) rw_217_34 rfl (s_add (pc := 35) rw_217_35 (A := v22.toInt) (B := x3.toInt) rfl rfl (by omega) (fun v24 e25 => ?_))))))))))))
      refine s_ial (pc := 36) rw_217_36 hG rfl (n := 180) rfl rfl (A := v24.toInt) rfl (by omega) (by omega) (lo := 0) (hi := 29) rfl rfl (fun v26 w_27 _ _ => s_v (pc := 37) rw_217_37 (dp0 hd (by decide)) (ls0 := [.ref 77, .int t, .int v26]) rfl (Nat.le_of_ble_eq_true rfl) (Nat.le_of_ble_eq_true rfl) rfl (to_rc rfl rfl rfl (g_o hG rfl)) rfl (C_210 hX (dp1 hd (by decide)) hG (by omega) (by omega) (by omega) (by omega) (by omega) (p := t) (c := v26) (fun M31 hG29 F28 p_30 => ?_)))
      have F32 := FR.c F0 F28 tg_267
      have s_33 : PSm M31 = PSm N - (N.2.1 100 (t.toInt).toNat).toInt + (M31.2.1 100 (t.toInt).toNat).toInt := PSm_set (by omega) p_30.1
      have s_34 := p_30.2
      have s_35 : (M31.2.1 100 (o.toInt).toNat).toInt = (N.2.1 100 (o.toInt).toNat).toInt := congrArg Int32.toInt (p_30.1 _ (by omega))
      refine s_inc (pc := 40) rw_217_40 (ls2 := fun v => [.ref 77, .int a, .int x2, .int v]) rfl rfl (fun _ => rfl) (A := x3.toInt) (B := 1) rfl rfl (by omega) (fun v36 e37 => to_go (pc := 43) rw_217_43 ?_)
      have s_38 := g_nn hG29 (o.toInt).toNat
      exact ih M31 x2 v36 hG29 F32 (by omega) (by omega) (by omega) (by omega) (by omega) (F_n F28 (show ¬ (103 = 99 ∨ 103 = 100) by decide) g6) (F_n F28 (show ¬ (102 = 99 ∨ 102 = 100) by decide) g7) ⟨by omega, by omega, by omega, by omega⟩ (by omega)
set_option maxRecDepth 4000 in
set_option maxHeartbeats 0 in
theorem C_217 {X : mm_X} {d : Nat} {M : mm_M} {Q : Option Value → mm_M → Prop} {a : Int32} {o : Int32} {t : Int32} (hX : g_X X) (hd : 1 ≤ d) (hG : g_G M) (q1 : 0 ≤ a.toInt) (q2 : a.toInt ≤ 39) (q3 : M.2.1 103 (a.toInt).toNat = t) (q4 : M.2.1 102 (a.toInt).toNat = o) (q5 : 0 ≤ o.toInt) (q6 : o.toInt ≤ 5) (q7 : 0 ≤ t.toInt) (q8 : t.toInt ≤ 5) (q9 : ¬ o.toInt = t.toInt) (q10 : PS M) (h : ∀ (M1 : mm_M), g_G M1 → FR md_co M M1 → PS M1 → Q (none) M1) : mm_T X d 216 0 [.ref 77, .int a, .null, .null] [] M Q := by
  have F0 : FR md_co M M := FR.rf
  have b_39 := g_b hG (a := 77) (i := 28) (lo := 0) (hi := 30) rfl rfl
  have s_40 := PS_e q10
  refine to_an (pc := 0) rw_217_0 rfl (s_gR (pc := 1) rw_217_1 hG rfl (v := 102) rfl (to_in (pc := 4) rw_217_4 rfl (s_ialk (pc := 5) rw_217_5 hG rfl (n := 40) rfl rfl (A := a.toInt) rfl (by omega) (by omega) (v := o) q4 (to_isn (pc := 6) rw_217_6 (ls2 := [.ref 77, .int a, .int o, .null]) rfl rfl (to_c (pc := 7) rw_217_7 (x := (0 : Int32)) rfl rfl (to_isn (pc := 8) rw_217_8 (ls2 := [.ref 77, .int a, .int o, .int (0 : Int32)]) rfl rfl ?_))))))
  have k_43 : (0 : Int32).toInt = 0 := rfl
  have s_44 := g_nn hG (o.toInt).toNat
  exact (T_217_0 (a := a) (o := o) (t := t) hX hd q1 q2 q3 q4 q5 q6 q7 q8 q9 q10 h ((30 - (0 : Int32).toInt).toNat + 1)) M o (0 : Int32) hG F0 (by omega) (by omega) (by omega) (by omega) (by omega) q3 q4 ⟨by omega, by omega, by omega, by omega⟩ (by omega)
