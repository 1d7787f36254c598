theorem tg_205 : ∀ a i : Nat, (a < 0) → (a = 1 ∧ 5 ≤ i ∨ 3 ≤ a ∧ a ≤ 5) := fun a i z => by omega
theorem tg_206 : ∀ a i : Nat, (a = 1 ∧ 5 ≤ i ∨ 3 ≤ a ∧ a ≤ 5) → (a = 1 ∧ 5 ≤ i ∨ 3 ≤ a ∧ a ≤ 5) := fun a i z => by omega
theorem tg_207 : ∀ a i : Nat, (a = 1 ∧ 5 ≤ i ∨ 3 ≤ a ∧ a ≤ 5) → (a = 1 ∨ 3 ≤ a ∧ a ≤ 5) := fun a i z => by omega
set_option maxRecDepth 4000 in
set_option maxHeartbeats 0 in
theorem T_77_0 {X : mm_X} {d : Nat} {M : mm_M} {Q : Option Value → mm_M → Prop} {x : Int32} (hX : g_X X) (hd : 0 ≤ d) (q1 : (M.2.1 1 1).toInt ≤ 496) (h : ∀ (M1 : mm_M), g_G M1 → FR md_a M M1 → ((M1.2.1 1 1).toInt = (M.2.1 1 1).toInt + 4) → Q (none) M1) : ∀ nn9 : Nat, (∀ (N : mm_M) (x2 : Int32), g_G N → FR md_a M N → (-8 ≤ x2.toInt) → (x2.toInt ≤ 24) → (8 * ((N.2.1 1 1).toInt - (M.2.1 1 1).toInt) + x2.toInt = 24) → x2.toInt + 8 < (nn9 : Int) → mm_T X d 77 3 [.ref 1, .int x, .int x2] [] N Q) := by
  intro nn9
  induction nn9 with
  | zero =>
    intro N x2 hG F0 g1 g2 g3 hm
    have b_1 := g_b hG (a := 1) (i := 1) (lo := 0) (hi := 500) rfl rfl
    exfalso; omega
  | succ nn9 ih =>
    intro N x2 hG F0 g1 g2 g3 hm
    have b_2 := g_b hG (a := 1) (i := 1) (lo := 0) (hi := 500) rfl rfl
    refine to_in (pc := 3) rw_77_3 rfl (b_ilt (pc := 4) rw_77_4 (A := x2.toInt) rfl (fun h3 => ?_) (fun h3 => ?_))
    · refine to_rv (pc := 48) rw_77_48 ?_
      exact h N hG F0 (by omega)
    · refine to_an (pc := 7) rw_77_7 rfl (tt_gI (pc := 8) rw_77_8 (g_o hG rfl) (v := (N.2.1 1 1)) rfl (to_an (pc := 11) rw_77_11 rfl (s_gR (pc := 12) rw_77_12 hG rfl (v := 2) rfl (s_len (pc := 15) rw_77_15 hG rfl rfl (n := 500) rfl (v := (500 : Int32)) rfl (b_cge (pc := 16) rw_77_16 (A := (N.2.1 1 1).toInt) (B := 500) rfl rfl (fun h4 => ?_) (fun h4 => ?_))))))
      · refine to_rv (pc := 48) rw_77_48 ?_
        exact h N hG F0 (by omega)
      · refine to_an (pc := 19) rw_77_19 rfl (s_gR (pc := 20) rw_77_20 hG rfl (v := 2) rfl (to_an (pc := 23) rw_77_23 rfl (tt_gI (pc := 24) rw_77_24 (g_o hG rfl) (v := (N.2.1 1 1)) rfl (to_in (pc := 27) rw_77_27 rfl (to_in (pc := 28) rw_77_28 rfl (s_any (pc := 29) rw_77_29 (fun _ _ => rfl) (fun v5 => s_i2b (pc := 30) rw_77_30 (fun v6 => s_bas (pc := 31) rw_77_31 hG rfl (n := 500) rfl (A := (N.2.1 1 1).toInt) rfl (by omega) (by omega) (fun M9 v8 W7 => ?_)))))))))
        have hG10 := g_wf hG W7 rfl rfl (by decide)
        have F11 := FR.w F0 W7 (show 2 = 1 ∧ ((N.2.1 1 1).toInt).toNat = 1 ∨ 2 = 2 by omega)
        refine to_an (pc := 32) rw_77_32 rfl (to_dupr (pc := 33) rw_77_33 ?_)
        have c_12 : M9.2.1 1 1 = (N.2.1 1 1) := (W_n W7 (fun z => absurd z.1 (by decide)) rfl)
        refine tt_gI (pc := 34) rw_77_34 (g_o hG10 rfl) (v := (N.2.1 1 1)) c_12 (to_c (pc := 37) rw_77_37 (x := (1 : Int32)) rfl rfl (s_add (pc := 38) rw_77_38 (A := (N.2.1 1 1).toInt) (B := 1) rfl rfl (by omega) (fun v13 e14 => s_pI (pc := 39) rw_77_39 hG10 rfl (fun M16 W15 => ?_))))
        have hG17 := g_w hG10 W15 (A := v13.toInt) rfl (lo := 0) (hi := 500) rfl rfl (by omega) (by decide)
        have F18 := FR.w F11 W15 (show 1 = 1 ∧ 1 = 1 ∨ 1 = 2 by decide)
        refine s_inc (pc := 42) rw_77_42 (ls2 := fun v => [.ref 1, .int x, .int v]) rfl rfl (fun _ => rfl) (A := x2.toInt) (B := -8) rfl rfl (by omega) (fun v19 e20 => to_go (pc := 45) rw_77_45 ?_)
        have c_21 : M16.2.1 1 1 = v13 := (W_e W15)
        have t_22 : (M16.2.1 1 1).toInt = v13.toInt := congrArg Int32.toInt c_21
        exact ih M16 v19 hG17 F18 (by omega) (by omega) (by omega) (by omega)
set_option maxRecDepth 4000 in
set_option maxHeartbeats 0 in
theorem C_77 {X : mm_X} {d : Nat} {M : mm_M} {Q : Option Value → mm_M → Prop} {x : Int32} (hX : g_X X) (hd : 0 ≤ d) (hG : g_G M) (q1 : (M.2.1 1 1).toInt ≤ 496) (h : ∀ (M1 : mm_M), g_G M1 → FR md_a M M1 → ((M1.2.1 1 1).toInt = (M.2.1 1 1).toInt + 4) → Q (none) M1) : mm_T X d 77 0 [.ref 1, .int x, .null] [] M Q := by
  have F0 : FR md_a M M := FR.rf
  have b_23 := g_b hG (a := 1) (i := 1) (lo := 0) (hi := 500) rfl rfl
  refine to_c (pc := 0) rw_77_0 (x := (24 : Int32)) rfl rfl (to_isn (pc := 2) rw_77_2 (ls2 := [.ref 1, .int x, .int (24 : Int32)]) rfl rfl ?_)
  have k_24 : (24 : Int32).toInt = 24 := rfl
  exact (T_77_0 (x := x) hX hd q1 h (((24 : Int32).toInt + 8).toNat + 1)) M (24 : Int32) hG F0 (by omega) (by omega) (by omega) (by omega)
set_option maxRecDepth 4000 in
set_option maxHeartbeats 0 in
theorem T_96_0 {X : mm_X} {d : Nat} {M : mm_M} {Q : Option Value → mm_M → Prop} {x : Int32} (hX : g_X X) (hd : 0 ≤ d) (h : ∀ (r : Int32) (M1 : mm_M), g_G M1 → FR md_0 M M1 → (0 ≤ r.toInt) → (r.toInt ≤ 1) → Q (some (.int r)) M1) : ∀ nn9 : Nat, (∀ (N : mm_M) (x2 : Int32) (x3 : Int32) (u4 : Value), g_G N → FR md_0 M N → (0 ≤ x3.toInt) → (x3.toInt ≤ 15) → (x2.toInt = 15) → 15 - x3.toInt < (nn9 : Int) → mm_T X d 96 9 [.int x, .ref (mm_ext + 1), .int x2, .int x3, u4] [] N Q) := by
  intro nn9
  induction nn9 with
  | zero =>
    intro N x2 x3 u4 hG F0 g1 g2 g3 hm
    exfalso; omega
  | succ nn9 ih =>
    intro N x2 x3 u4 hG F0 g1 g2 g3 hm
    refine to_in (pc := 9) rw_96_9 rfl (to_in (pc := 10) rw_96_10 rfl (b_cge (pc := 11) rw_96_11 (A := x3.toInt) (B := x2.toInt) rfl rfl (fun h1 => ?_) (fun h1 => ?_)))
    · refine to_c (pc := 33) rw_96_33 (x := (0 : Int32)) rfl rfl (s_r1 (pc := 34) rw_96_34 (A := 0) rfl (by decide) ?_)
      have k_2 : (0 : Int32).toInt = 0 := rfl
      exact h (0 : Int32) N hG F0 (by decide) (by decide)
    · refine to_an (pc := 14) rw_96_14 rfl (to_in (pc := 15) rw_96_15 rfl (s_xal (pc := 16) rw_96_16 hX (e := 1) (n := 15) rfl (A := x3.toInt) rfl (by omega) (by omega) (fun v3 => to_is (pc := 17) rw_96_17 (ls2 := [.int x, .ref (mm_ext + 1), .int x2, .int x3, .int v3]) rfl rfl (to_i (pc := 19) rw_96_19 rfl (to_in (pc := 21) rw_96_21 rfl (b_cne (pc := 22) rw_96_22 (A := v3.toInt) (B := x.toInt) rfl rfl (fun h4 => ?_) (fun h4 => ?_)))))))
      · refine s_inc (pc := 27) rw_96_27 (ls2 := fun v => [.int x, .ref (mm_ext + 1), .int x2, .int v, .int v3]) rfl rfl (fun _ => rfl) (A := x3.toInt) (B := 1) rfl rfl (by omega) (fun v5 e6 => to_go (pc := 30) rw_96_30 ?_)
        exact ih N x2 v5 (.int v3) hG F0 (by omega) (by omega) (by omega) (by omega)
      · refine to_c (pc := 25) rw_96_25 (x := (1 : Int32)) rfl rfl (s_r1 (pc := 26) rw_96_26 (A := 1) rfl (by decide) ?_)
        have k_7 : (1 : Int32).toInt = 1 := rfl
        exact h (1 : Int32) N hG F0 (by decide) (by decide)
set_option maxRecDepth 4000 in
set_option maxHeartbeats 0 in
theorem C_96 {X : mm_X} {d : Nat} {M : mm_M} {Q : Option Value → mm_M → Prop} {x : Int32} (hX : g_X X) (hd : 0 ≤ d) (hG : g_G M) (h : ∀ (r : Int32) (M1 : mm_M), g_G M1 → FR md_0 M M1 → (0 ≤ r.toInt) → (r.toInt ≤ 1) → Q (some (.int r)) M1) : mm_T X d 96 0 [.int x, .null, .null, .null, .null] [] M Q := by
  have F0 : FR md_0 M M := FR.rf
  refine s_gs (pc := 0) rw_96_0 (to_asn (pc := 3) rw_96_3 (ls2 := [.int x, .ref (mm_ext + 1), .null, .null, .null]) rfl rfl (to_an (pc := 4) rw_96_4 rfl (s_xlen (pc := 5) rw_96_5 hX (e := 1) (n := 15) rfl (v := (15 : Int32)) rfl (to_isn (pc := 6) rw_96_6 (ls2 := [.int x, .ref (mm_ext + 1), .int (15 : Int32), .null, .null]) rfl rfl (to_c (pc := 7) rw_96_7 (x := (0 : Int32)) rfl rfl (to_isn (pc := 8) rw_96_8 (ls2 := [.int x, .ref (mm_ext + 1), .int (15 : Int32), .int (0 : Int32), .null]) rfl rfl ?_))))))
  have k_8 : (15 : Int32).toInt = 15 := rfl
  have k_9 : (0 : Int32).toInt = 0 := rfl
  exact (T_96_0 (x := x) hX hd  h ((15 - (0 : Int32).toInt).toNat + 1)) M (15 : Int32) (0 : Int32) (.null) hG F0 (by omega) (by omega) (by omega) (by omega)
set_option maxRecDepth 4000 in
set_option maxHeartbeats 0 in
theorem C_82 {X : mm_X} {d : Nat} {M : mm_M} {Q : Option Value → mm_M → Prop} {t : Int32} {v : Int32} {w : Int32} (hX : g_X X) (hd : 0 ≤ d) (hG : g_G M) (h : ∀ (M1 : mm_M), g_G M1 → FR md_t M M1 → (1 ≤ (M1.2.1 1 5).toInt) → ((M1.2.1 1 10).toInt = (M.2.1 1 10).toInt ∧ (M1.2.1 1 11).toInt = (M.2.1 1 11).toInt) → Q (none) M1) : mm_T X d 82 0 [.ref 1, .int t, .int v, .int w] [] M Q := by
  have F0 : FR md_t M M := FR.rf
  refine to_an (pc := 0) rw_82_0 rfl ?_
  have b_1 := g_b hG (a := 1) (i := 5) (lo := 0) (hi := 501) rfl rfl
  refine tt_gI (pc := 1) rw_82_1 (g_o hG rfl) (v := (M.2.1 1 5)) rfl (to_an (pc := 4) rw_82_4 rfl (s_gR (pc := 5) rw_82_5 hG rfl (v := 3) rfl (s_len (pc := 8) rw_82_8 hG rfl rfl (n := 501) rfl (v := (501 : Int32)) rfl (b_cge (pc := 9) rw_82_9 (A := (M.2.1 1 5).toInt) (B := 501) rfl rfl (fun h2 => ?_) (fun h2 => ?_)))))
  · refine to_rv (pc := 52) rw_82_52 ?_
    exact h M hG F0 (by omega) (by omega)
  · refine to_an (pc := 12) rw_82_12 rfl (s_gR (pc := 13) rw_82_13 hG rfl (v := 3) rfl (to_an (pc := 16) rw_82_16 rfl (tt_gI (pc := 17) rw_82_17 (g_o hG rfl) (v := (M.2.1 1 5)) rfl (to_in (pc := 20) rw_82_20 rfl (s_ias (pc := 21) rw_82_21 hG rfl (n := 501) rfl (A := (M.2.1 1 5).toInt) rfl (by omega) (by omega) (fun M4 W3 => ?_))))))
    have hG5 := g_wf hG W3 rfl rfl (by decide)
    have F6 := FR.w F0 W3 (show 3 = 1 ∧ 5 ≤ ((M.2.1 1 5).toInt).toNat ∨ 3 ≤ 3 ∧ 3 ≤ 5 by omega)
    refine to_an (pc := 22) rw_82_22 rfl (s_gR (pc := 23) rw_82_23 hG5 rfl (v := 4) rfl (to_an (pc := 26) rw_82_26 rfl ?_))
    have c_7 : M4.2.1 1 5 = (M.2.1 1 5) := (W_n W3 (fun z => absurd z.1 (by decide)) rfl)
    refine tt_gI (pc := 27) rw_82_27 (g_o hG5 rfl) (v := (M.2.1 1 5)) c_7 (to_in (pc := 30) rw_82_30 rfl (s_ias (pc := 31) rw_82_31 hG5 rfl (n := 501) rfl (A := (M.2.1 1 5).toInt) rfl (by omega) (by omega) (fun M9 W8 => ?_)))
    have hG10 := g_wf hG5 W8 rfl rfl (by decide)
    have F11 := FR.w F6 W8 (show 4 = 1 ∧ 5 ≤ ((M.2.1 1 5).toInt).toNat ∨ 3 ≤ 4 ∧ 4 ≤ 5 by omega)
    refine to_an (pc := 32) rw_82_32 rfl (s_gR (pc := 33) rw_82_33 hG10 rfl (v := 5) rfl (to_an (pc := 36) rw_82_36 rfl ?_))
    have c_12 : M9.2.1 1 5 = (M.2.1 1 5) := (W_n W8 (fun z => absurd z.1 (by decide)) c_7)
    refine tt_gI (pc := 37) rw_82_37 (g_o hG10 rfl) (v := (M.2.1 1 5)) c_12 (to_in (pc := 40) rw_82_40 rfl (s_ias (pc := 41) rw_82_41 hG10 rfl (n := 501) rfl (A := (M.2.1 1 5).toInt) rfl (by omega) (by omega) (fun M14 W13 => ?_)))
    have hG15 := g_wf hG10 W13 rfl rfl (by decide)
    have F16 := FR.w F11 W13 (show 5 = 1 ∧ 5 ≤ ((M.2.1 1 5).toInt).toNat ∨ 3 ≤ 5 ∧ 5 ≤ 5 by omega)
    refine to_an (pc := 42) rw_82_42 rfl (to_dupr (pc := 43) rw_82_43 ?_)
    have c_17 : M14.2.1 1 5 = (M.2.1 1 5) := (W_n W13 (fun z => absurd z.1 (by decide)) c_12)
    refine tt_gI (pc := 44) rw_82_44 (g_o hG15 rfl) (v := (M.2.1 1 5)) c_17 (to_c (pc := 47) rw_82_47 (x := (1 : Int32)) rfl rfl (s_add (pc := 48) rw_82_48 (A := (M.2.1 1 5).toInt) (B := 1) rfl rfl (by omega) (fun v18 e19 => s_pI (pc := 49) rw_82_49 hG15 rfl (fun M21 W20 => ?_))))
    have hG22 := g_w hG15 W20 (A := v18.toInt) rfl (lo := 0) (hi := 501) rfl rfl (by omega) (by decide)
    have F23 := FR.w F16 W20 (show 1 = 1 ∧ 5 ≤ 5 ∨ 3 ≤ 1 ∧ 1 ≤ 5 by decide)
    refine to_rv (pc := 52) rw_82_52 ?_
    have c_24 : M21.2.1 1 5 = v18 := (W_e W20)
    have t_25 : (M21.2.1 1 5).toInt = v18.toInt := congrArg Int32.toInt c_24
    have c_26 : M21.2.1 1 10 = (M.2.1 1 10) := (W_n W20 (by decide) (W_n W13 (fun z => absurd z.1 (by decide)) (W_n W8 (fun z => absurd z.1 (by decide)) (W_n W3 (fun z => absurd z.1 (by decide)) rfl))))
    have t_27 : (M21.2.1 1 10).toInt = (M.2.1 1 10).toInt := congrArg Int32.toInt c_26
    have c_28 : M21.2.1 1 11 = (M.2.1 1 11) := (W_n W20 (by decide) (W_n W13 (fun z => absurd z.1 (by decide)) (W_n W8 (fun z => absurd z.1 (by decide)) (W_n W3 (fun z => absurd z.1 (by decide)) rfl))))
    have t_29 : (M21.2.1 1 11).toInt = (M.2.1 1 11).toInt := congrArg Int32.toInt c_28
    exact h M21 hG22 F23 (by omega) (by omega)
set_option maxRecDepth 4000 in
set_option maxHeartbeats 0 in
theorem C_83 {X : mm_X} {d : Nat} {M : mm_M} {Q : Option Value → mm_M → Prop} (hX : g_X X) (hd : 0 ≤ d) (hG : g_G M) (h : ∀ (M1 : mm_M), g_G M1 → FR md_t M M1 → ((M1.2.1 1 10).toInt = (M.2.1 1 10).toInt ∧ (M1.2.1 1 11).toInt = (M.2.1 1 11).toInt) → Q (none) M1) : mm_T X d 83 0 [.ref 1] [] M Q := by
  have F0 : FR md_t M M := FR.rf
  refine to_an (pc := 0) rw_83_0 rfl ?_
  have b_1 := g_b hG (a := 1) (i := 6) (lo := 0) (hi := 500) rfl rfl
  refine tt_gI (pc := 1) rw_83_1 (g_o hG rfl) (v := (M.2.1 1 6)) rfl (to_c (pc := 4) rw_83_4 (x := (1 : Int32)) rfl rfl (s_add (pc := 5) rw_83_5 (A := (M.2.1 1 6).toInt) (B := 1) rfl rfl (by omega) (fun v2 e3 => to_an (pc := 6) rw_83_6 rfl ?_)))
  have b_4 := g_b hG (a := 1) (i := 5) (lo := 0) (hi := 501) rfl rfl
  refine tt_gI (pc := 7) rw_83_7 (g_o hG rfl) (v := (M.2.1 1 5)) rfl (b_cge (pc := 10) rw_83_10 (A := v2.toInt) (B := (M.2.1 1 5).toInt) rfl rfl (fun h5 => ?_) (fun h5 => ?_))
  · refine to_an (pc := 23) rw_83_23 rfl (to_an (pc := 24) rw_83_24 rfl (s_gR (pc := 25) rw_83_25 hG rfl (v := 3) rfl (to_an (pc := 28) rw_83_28 rfl (tt_gI (pc := 29) rw_83_29 (g_o hG rfl) (v := (M.2.1 1 6)) rfl (s_ial (pc := 32) rw_83_32 hG rfl (n := 501) rfl rfl (A := (M.2.1 1 6).toInt) rfl (by omega) (by omega) (lo := -2147483648) (hi := 2147483647) rfl rfl (fun v6 w_7 _ _ => s_pI (pc := 33) rw_83_33 hG rfl (fun M9 W8 => ?_)))))))
    have hG10 := g_wf hG W8 rfl rfl (by decide)
    have F11 := FR.w F0 W8 (show 1 = 1 ∧ 5 ≤ 7 ∨ 3 ≤ 1 ∧ 1 ≤ 5 by decide)
    refine to_an (pc := 36) rw_83_36 rfl (to_an (pc := 37) rw_83_37 rfl (s_gR (pc := 38) rw_83_38 hG10 rfl (v := 4) rfl (to_an (pc := 41) rw_83_41 rfl ?_)))
    have c_12 : M9.2.1 1 6 = (M.2.1 1 6) := (W_n W8 (by decide) rfl)
    refine tt_gI (pc := 42) rw_83_42 (g_o hG10 rfl) (v := (M.2.1 1 6)) c_12 (s_ial (pc := 45) rw_83_45 hG10 rfl (n := 501) rfl rfl (A := (M.2.1 1 6).toInt) rfl (by omega) (by omega) (lo := -2147483648) (hi := 2147483647) rfl rfl (fun v13 w_14 _ _ => s_pI (pc := 46) rw_83_46 hG10 rfl (fun M16 W15 => ?_)))
    have hG17 := g_wf hG10 W15 rfl rfl (by decide)
    have F18 := FR.w F11 W15 (show 1 = 1 ∧ 5 ≤ 8 ∨ 3 ≤ 1 ∧ 1 ≤ 5 by decide)
    refine to_an (pc := 49) rw_83_49 rfl (to_an (pc := 50) rw_83_50 rfl (s_gR (pc := 51) rw_83_51 hG17 rfl (v := 5) rfl (to_an (pc := 54) rw_83_54 rfl ?_)))
    have c_19 : M16.2.1 1 6 = (M.2.1 1 6) := (W_n W15 (by decide) c_12)
    refine tt_gI (pc := 55) rw_83_55 (g_o hG17 rfl) (v := (M.2.1 1 6)) c_19 (s_ial (pc := 58) rw_83_58 hG17 rfl (n := 501) rfl rfl (A := (M.2.1 1 6).toInt) rfl (by omega) (by omega) (lo := -2147483648) (hi := 2147483647) rfl rfl (fun v20 w_21 _ _ => s_pI (pc := 59) rw_83_59 hG17 rfl (fun M23 W22 => ?_)))
    have hG24 := g_wf hG17 W22 rfl rfl (by decide)
    have F25 := FR.w F18 W22 (show 1 = 1 ∧ 5 ≤ 9 ∨ 3 ≤ 1 ∧ 1 ≤ 5 by decide)
    refine to_rv (pc := 62) rw_83_62 ?_
    have c_26 : M23.2.1 1 10 = (M.2.1 1 10) := (W_n W22 (by decide) (W_n W15 (by decide) (W_n W8 (by decide) rfl)))
    have t_27 : (M23.2.1 1 10).toInt = (M.2.1 1 10).toInt := congrArg Int32.toInt c_26
    have c_28 : M23.2.1 1 11 = (M.2.1 1 11) := (W_n W22 (by decide) (W_n W15 (by decide) (W_n W8 (by decide) rfl)))
    have t_29 : (M23.2.1 1 11).toInt = (M.2.1 1 11).toInt := congrArg Int32.toInt c_28
    exact h M23 hG24 F25 (by omega)
  · refine to_an (pc := 13) rw_83_13 rfl (to_dupr (pc := 14) rw_83_14 (tt_gI (pc := 15) rw_83_15 (g_o hG rfl) (v := (M.2.1 1 6)) rfl (to_c (pc := 18) rw_83_18 (x := (1 : Int32)) rfl rfl (s_add (pc := 19) rw_83_19 (A := (M.2.1 1 6).toInt) (B := 1) rfl rfl (by omega) (fun v30 e31 => s_pI (pc := 20) rw_83_20 hG rfl (fun M33 W32 => ?_))))))
    have hG34 := g_w hG W32 (A := v30.toInt) rfl (lo := 0) (hi := 500) rfl rfl (by omega) (by decide)
    have F35 := FR.w F0 W32 (show 1 = 1 ∧ 5 ≤ 6 ∨ 3 ≤ 1 ∧ 1 ≤ 5 by decide)
    refine to_an (pc := 23) rw_83_23 rfl (to_an (pc := 24) rw_83_24 rfl (s_gR (pc := 25) rw_83_25 hG34 rfl (v := 3) rfl (to_an (pc := 28) rw_83_28 rfl ?_)))
    have c_36 : M33.2.1 1 6 = v30 := (W_e W32)
    refine tt_gI (pc := 29) rw_83_29 (g_o hG34 rfl) (v := v30) c_36 (s_ial (pc := 32) rw_83_32 hG34 rfl (n := 501) rfl rfl (A := v30.toInt) rfl (by omega) (by omega) (lo := -2147483648) (hi := 2147483647) rfl rfl (fun v37 w_38 _ _ => s_pI (pc := 33) rw_83_33 hG34 rfl (fun M40 W39 => ?_)))
    have hG41 := g_wf hG34 W39 rfl rfl (by decide)
    have F42 := FR.w F35 W39 (show 1 = 1 ∧ 5 ≤ 7 ∨ 3 ≤ 1 ∧ 1 ≤ 5 by decide)
    refine to_an (pc := 36) rw_83_36 rfl (to_an (pc := 37) rw_83_37 rfl (s_gR (pc := 38) rw_83_38 hG41 rfl (v := 4) rfl (to_an (pc := 41) rw_83_41 rfl ?_)))
    have c_43 : M40.2.1 1 6 = v30 := (W_n W39 (by decide) c_36)
    refine tt_gI (pc := 42) rw_83_42 (g_o hG41 rfl) (v := v30) c_43 (s_ial (pc := 45) rw_83_45 hG41 rfl (n := 501) rfl rfl (A := v30.toInt) rfl (by omega) (by omega) (lo := -2147483648) (hi := 2147483647) rfl rfl (fun v44 w_45 _ _ => s_pI (pc := 46) rw_83_46 hG41 rfl (fun M47 W46 => ?_)))
    have hG48 := g_wf hG41 W46 rfl rfl (by decide)
    have F49 := FR.w F42 W46 (show 1 = 1 ∧ 5 ≤ 8 ∨ 3 ≤ 1 ∧ 1 ≤ 5 by decide)
    refine to_an (pc := 49) rw_83_49 rfl (to_an (pc := 50) rw_83_50 rfl (s_gR (pc := 51) rw_83_51 hG48 rfl (v := 5) rfl (to_an (pc := 54) rw_83_54 rfl ?_)))
    have c_50 : M47.2.1 1 6 = v30 := (W_n W46 (by decide) c_43)
    refine tt_gI (pc := 55) rw_83_55 (g_o hG48 rfl) (v := v30) c_50 (s_ial (pc := 58) rw_83_58 hG48 rfl (n := 501) rfl rfl (A := v30.toInt) rfl (by omega) (by omega) (lo := -2147483648) (hi := 2147483647) rfl rfl (fun v51 w_52 _ _ => s_pI (pc := 59) rw_83_59 hG48 rfl (fun M54 W53 => ?_)))
    have hG55 := g_wf hG48 W53 rfl rfl (by decide)
    have F56 := FR.w F49 W53 (show 1 = 1 ∧ 5 ≤ 9 ∨ 3 ≤ 1 ∧ 1 ≤ 5 by decide)
    refine to_rv (pc := 62) rw_83_62 ?_
    have c_57 : M54.2.1 1 10 = (M.2.1 1 10) := (W_n W53 (by decide) (W_n W46 (by decide) (W_n W39 (by decide) (W_n W32 (by decide) rfl))))
    have t_58 : (M54.2.1 1 10).toInt = (M.2.1 1 10).toInt := congrArg Int32.toInt c_57
    have c_59 : M54.2.1 1 11 = (M.2.1 1 11) := (W_n W53 (by decide) (W_n W46 (by decide) (W_n W39 (by decide) (W_n W32 (by decide) rfl))))
    have t_60 : (M54.2.1 1 11).toInt = (M.2.1 1 11).toInt := congrArg Int32.toInt c_59
    exact h M54 hG55 F56 (by omega)
set_option maxRecDepth 4000 in
set_option maxHeartbeats 0 in
theorem T_80_0 {X : mm_X} {d : Nat} {M : mm_M} {Q : Option Value → mm_M → Prop} {f : Int32} {n : Int32} (hX : g_X X) (hd : 1 ≤ d) (q1 : 0 ≤ f.toInt) (q2 : f.toInt ≤ 500) (q3 : 0 ≤ n.toInt) (q4 : n.toInt ≤ 500) (h : ∀ (r : Int32) (M1 : mm_M), g_G M1 → FR md_t M M1 → (f.toInt ≤ r.toInt) → (r.toInt ≤ 500) → ((M1.2.1 1 10).toInt = (M.2.1 1 10).toInt ∧ (M1.2.1 1 11).toInt = (M.2.1 1 11).toInt) → Q (some (.int r)) M1) : ∀ nn9 : Nat, (∀ (N : mm_M) (x3 : Int32) (x4 : Int32), g_G N → FR md_t M N → (0 ≤ x4.toInt) → (x4.toInt ≤ 500) → (f.toInt ≤ x4.toInt) → (0 ≤ f.toInt) → (n.toInt ≤ 500) → (f.toInt = f.toInt) → ((N.2.1 1 10).toInt = (M.2.1 1 10).toInt ∧ (N.2.1 1 11).toInt = (M.2.1 1 11).toInt) → 500 - x4.toInt < (nn9 : Int) → mm_T X d 80 5 [.ref 1, .int f, .int n, .int x3, .int x4] [] N Q) := by
  intro nn9
  induction nn9 with
  | zero =>
    intro N x3 x4 hG F0 g1 g2 g3 g4 g5 g6 g7 hm
    exfalso; omega
  | succ nn9 ih =>
    intro N x3 x4 hG F0 g1 g2 g3 g4 g5 g6 g7 hm
    refine to_i (pc := 5) rw_80_5 rfl (to_in (pc := 7) rw_80_7 rfl (b_cge (pc := 8) rw_80_8 (A := x4.toInt) (B := n.toInt) rfl rfl (fun h1 => ?_) (fun h1 => ?_)))
    · refine to_i (pc := 60) rw_80_60 rfl (to_in (pc := 62) rw_80_62 rfl (s_sub (pc := 63) rw_80_63 (A := x4.toInt) (B := f.toInt) rfl rfl (by omega) (fun v2 e3 => to_c (pc := 64) rw_80_64 (x := (6 : Int32)) rfl rfl (b_cle (pc := 66) rw_80_66 (A := v2.toInt) (B := 6) rfl rfl (fun h4 => ?_) (fun h4 => ?_)))))
      · refine to_an (pc := 79) rw_80_79 rfl (to_in (pc := 80) rw_80_80 rfl (s_s (pc := 81) rw_80_81 (dp0 hd (by decide)) (ls0 := [.int x3, .null, .null, .null, .null]) rfl (Nat.le_of_ble_eq_true rfl) (Nat.le_of_ble_eq_true rfl) rfl (to_rcs rfl rfl) rfl (C_96 hX (dp1 hd (by decide)) hG (x := x3) (fun r5 M10 hG7 F6 p_8 p_9 => ?_))))
        have F11 := FR.c F0 F6 tg_205
        refine b_ieq (pc := 84) rw_80_84 (A := r5.toInt) rfl (fun h12 => ?_) (fun h12 => ?_)
        · refine to_c (pc := 91) rw_80_91 (x := (3 : Int32)) rfl rfl (to_in (pc := 92) rw_80_92 rfl (to_in (pc := 93) rw_80_93 rfl (s_v (pc := 94) rw_80_94 (dp0 hd (by decide)) (ls0 := [.ref 1, .int (3 : Int32), .int x3, .int f]) rfl (Nat.le_of_ble_eq_true rfl) (Nat.le_of_ble_eq_true rfl) rfl (to_rc rfl rfl rfl (g_o hG7 rfl)) rfl ?_)))
          have k_13 : (3 : Int32).toInt = 3 := rfl
          have c_14 : M10.2.1 1 10 = (N.2.1 1 10) := (F_n F6 (show ¬ (1 < 0) by decide) rfl)
          have t_15 : (M10.2.1 1 10).toInt = (N.2.1 1 10).toInt := congrArg Int32.toInt c_14
          have c_16 : M10.2.1 1 11 = (N.2.1 1 11) := (F_n F6 (show ¬ (1 < 0) by decide) rfl)
          have t_17 : (M10.2.1 1 11).toInt = (N.2.1 1 11).toInt := congrArg Int32.toInt c_16
          refine C_82 hX (dp1 hd (by decide)) hG7 (t := (3 : Int32)) (v := x3) (w := f) (fun M22 hG19 F18 p_20 p_21 => ?_)
          have F23 := FR.c F11 F18 tg_206
          have b_24 := g_b hG19 (a := 1) (i := 5) (lo := 0) (hi := 501) rfl rfl
          refine to_i (pc := 97) rw_80_97 rfl (to_r0 (pc := 99) rw_80_99 ?_)
          exact h x4 M22 hG19 F23 (by omega) (by omega) (by omega)
        · refine to_c (pc := 87) rw_80_87 (x := (4 : Int32)) rfl rfl (to_go (pc := 88) rw_80_88 (to_in (pc := 92) rw_80_92 rfl (to_in (pc := 93) rw_80_93 rfl (s_v (pc := 94) rw_80_94 (dp0 hd (by decide)) (ls0 := [.ref 1, .int (4 : Int32), .int x3, .int f]) rfl (Nat.le_of_ble_eq_true rfl) (Nat.le_of_ble_eq_true rfl) rfl (to_rc rfl rfl rfl (g_o hG7 rfl)) rfl ?_))))
          have k_25 : (4 : Int32).toInt = 4 := rfl
          have c_26 : M10.2.1 1 10 = (N.2.1 1 10) := (F_n F6 (show ¬ (1 < 0) by decide) rfl)
          have t_27 : (M10.2.1 1 10).toInt = (N.2.1 1 10).toInt := congrArg Int32.toInt c_26
          have c_28 : M10.2.1 1 11 = (N.2.1 1 11) := (F_n F6 (show ¬ (1 < 0) by decide) rfl)
          have t_29 : (M10.2.1 1 11).toInt = (N.2.1 1 11).toInt := congrArg Int32.toInt c_28
          refine C_82 hX (dp1 hd (by decide)) hG7 (t := (4 : Int32)) (v := x3) (w := f) (fun M34 hG31 F30 p_32 p_33 => ?_)
          have F35 := FR.c F11 F30 tg_206
          have b_36 := g_b hG31 (a := 1) (i := 5) (lo := 0) (hi := 501) rfl rfl
          refine to_i (pc := 97) rw_80_97 rfl (to_r0 (pc := 99) rw_80_99 ?_)
          exact h x4 M34 hG31 F35 (by omega) (by omega) (by omega)
      · refine to_an (pc := 69) rw_80_69 rfl (to_c (pc := 70) rw_80_70 (x := (1 : Int32)) rfl rfl (to_c (pc := 71) rw_80_71 (x := (0 : Int32)) rfl rfl (to_in (pc := 72) rw_80_72 rfl (s_v (pc := 73) rw_80_73 (dp0 hd (by decide)) (ls0 := [.ref 1, .int (1 : Int32), .int (0 : Int32), .int f]) rfl (Nat.le_of_ble_eq_true rfl) (Nat.le_of_ble_eq_true rfl) rfl (to_rc rfl rfl rfl (g_o hG rfl)) rfl ?_))))
        have k_37 : (1 : Int32).toInt = 1 := rfl
        have k_38 : (0 : Int32).toInt = 0 := rfl
        refine C_82 hX (dp1 hd (by decide)) hG (t := (1 : Int32)) (v := (0 : Int32)) (w := f) (fun M43 hG40 F39 p_41 p_42 => ?_)
        have F44 := FR.c F0 F39 tg_206
        have b_45 := g_b hG40 (a := 1) (i := 5) (lo := 0) (hi := 501) rfl rfl
        refine to_go (pc := 76) rw_80_76 (to_i (pc := 97) rw_80_97 rfl (to_r0 (pc := 99) rw_80_99 ?_))
        exact h x4 M43 hG40 F44 (by omega) (by omega) (by omega)
    · refine to_an (pc := 11) rw_80_11 rfl (to_i (pc := 12) rw_80_12 rfl (s_v (pc := 14) rw_80_14 (dp0 hd (by decide)) (ls0 := [.ref 1, .int x4]) rfl (Nat.le_of_ble_eq_true rfl) (Nat.le_of_ble_eq_true rfl) rfl (to_rc rfl rfl rfl (g_o hG rfl)) rfl (to_in (pc := 0) rw_91_0 rfl (b_ilt_f (pc := 1) rw_91_1 (A := x4.toInt) rfl (by omega) (to_in (pc := 4) rw_91_4 rfl (to_an (pc := 5) rw_91_5 rfl (s_gR (pc := 6) rw_91_6 hG rfl (v := 2) rfl (s_len (pc := 9) rw_91_9 hG rfl rfl (n := 500) rfl (v := (500 : Int32)) rfl (b_cge_f (pc := 10) rw_91_10 (A := x4.toInt) (B := 500) rfl rfl (by omega) (to_an (pc := 13) rw_91_13 rfl (s_gR (pc := 14) rw_91_14 hG rfl (v := 2) rfl ?_)))))))))))
      refine to_in (pc := 17) rw_91_17 rfl (s_bal (pc := 18) rw_91_18 hG rfl (n := 500) rfl (A := x4.toInt) rfl (by omega) (by omega) (lo := -2147483648) (hi := 2147483647) rfl rfl (fun v46 w_47 _ _ => to_c (pc := 19) rw_91_19 (x := (255 : Int32)) rfl rfl (s_and (pc := 22) rw_91_22 (B := 255) rfl (by omega) (fun v48 e49 _ _ => to_go (pc := 23) rw_91_23 (to_r0 (pc := 27) rw_91_27 (s_s (pc := 17) rw_80_17 (dp0 hd (by decide)) (ls0 := [.int v48]) rfl (Nat.le_of_ble_eq_true rfl) (Nat.le_of_ble_eq_true rfl) rfl (to_rcs rfl rfl) rfl (to_in (pc := 0) rw_93_0 rfl (to_c (pc := 1) rw_93_1 (x := (97 : Int32)) rfl rfl (b_clt (pc := 3) rw_93_3 (A := v48.toInt) (B := 97) rfl rfl (fun h50 => ?_) (fun h50 => ?_))))))))))
      · refine to_c (pc := 16) rw_93_16 (x := (0 : Int32)) rfl rfl (s_r1 (pc := 17) rw_93_17 (A := 0) rfl (by decide) (b_ieq_t (pc := 20) rw_80_20 (A := 0) rfl (by decide) (to_i (pc := 60) rw_80_60 rfl (to_in (pc := 62) rw_80_62 rfl (s_sub (pc := 63) rw_80_63 (A := x4.toInt) (B := f.toInt) rfl rfl (by omega) (fun v51 e52 => to_c (pc := 64) rw_80_64 (x := (6 : Int32)) rfl rfl (b_cle (pc := 66) rw_80_66 (A := v51.toInt) (B := 6) rfl rfl (fun h53 => ?_) (fun h53 => ?_))))))))
        · refine to_an (pc := 79) rw_80_79 rfl (to_in (pc := 80) rw_80_80 rfl (s_s (pc := 81) rw_80_81 (dp0 hd (by decide)) (ls0 := [.int x3, .null, .null, .null, .null]) rfl (Nat.le_of_ble_eq_true rfl) (Nat.le_of_ble_eq_true rfl) rfl (to_rcs rfl rfl) rfl (C_96 hX (dp1 hd (by decide)) hG (x := x3) (fun r54 M59 hG56 F55 p_57 p_58 => ?_))))
          have F60 := FR.c F0 F55 tg_205
          refine b_ieq (pc := 84) rw_80_84 (A := r54.toInt) rfl (fun h61 => ?_) (fun h61 => ?_)
          · refine to_c (pc := 91) rw_80_91 (x := (3 : Int32)) rfl rfl (to_in (pc := 92) rw_80_92 rfl (to_in (pc := 93) rw_80_93 rfl (s_v (pc := 94) rw_80_94 (dp0 hd (by decide)) (ls0 := [.ref 1, .int (3 : Int32), .int x3, .int f]) rfl (Nat.le_of_ble_eq_true rfl) (Nat.le_of_ble_eq_true rfl) rfl (to_rc rfl rfl rfl (g_o hG56 rfl)) rfl ?_)))
            have k_62 : (3 : Int32).toInt = 3 := rfl
            have c_63 : M59.2.1 1 10 = (N.2.1 1 10) := (F_n F55 (show ¬ (1 < 0) by decide) rfl)
            have t_64 : (M59.2.1 1 10).toInt = (N.2.1 1 10).toInt := congrArg Int32.toInt c_63
            have c_65 : M59.2.1 1 11 = (N.2.1 1 11) := (F_n F55 (show ¬ (1 < 0) by decide) rfl)
            have t_66 : (M59.2.1 1 11).toInt = (N.2.1 1 11).toInt := congrArg Int32.toInt c_65
            refine C_82 hX (dp1 hd (by decide)) hG56 (t := (3 : Int32)) (v := x3) (w := f) (fun M71 hG68 F67 p_69 p_70 => ?_)
            have F72 := FR.c F60 F67 tg_206
            have b_73 := g_b hG68 (a := 1) (i := 5) (lo := 0) (hi := 501) rfl rfl
            refine to_i (pc := 97) rw_80_97 rfl (to_r0 (pc := 99) rw_80_99 ?_)
            exact h x4 M71 hG68 F72 (by omega) (by omega) (by omega)
          · refine to_c (pc := 87) rw_80_87 (x := (4 : Int32)) rfl rfl (to_go (pc := 88) rw_80_88 (to_in (pc := 92) rw_80_92 rfl (to_in (pc := 93) rw_80_93 rfl (s_v (pc := 94) rw_80_94 (dp0 hd (by decide)) (ls0 := [.ref 1, .int (4 : Int32), .int x3, .int f]) rfl (Nat.le_of_ble_eq_true rfl) (Nat.le_of_ble_eq_true rfl) rfl (to_rc rfl rfl rfl (g_o hG56 rfl)) rfl ?_))))
            have k_74 : (4 : Int32).toInt = 4 := rfl
            have c_75 : M59.2.1 1 10 = (N.2.1 1 10) := (F_n F55 (show ¬ (1 < 0) by decide) rfl)
            have t_76 : (M59.2.1 1 10).toInt = (N.2.1 1 10).toInt := congrArg Int32.toInt c_75
            have c_77 : M59.2.1 1 11 = (N.2.1 1 11) := (F_n F55 (show ¬ (1 < 0) by decide) rfl)
            have t_78 : (M59.2.1 1 11).toInt = (N.2.1 1 11).toInt := congrArg Int32.toInt c_77
            refine C_82 hX (dp1 hd (by decide)) hG56 (t := (4 : Int32)) (v := x3) (w := f) (fun M83 hG80 F79 p_81 p_82 => ?_)
            have F84 := FR.c F60 F79 tg_206
            have b_85 := g_b hG80 (a := 1) (i := 5) (lo := 0) (hi := 501) rfl rfl
            refine to_i (pc := 97) rw_80_97 rfl (to_r0 (pc := 99) rw_80_99 ?_)
            exact h x4 M83 hG80 F84 (by omega) (by omega) (by omega)
        · refine to_an (pc := 69) rw_80_69 rfl (to_c (pc := 70) rw_80_70 (x := (1 : Int32)) rfl rfl (to_c (pc := 71) rw_80_71 (x := (0 : Int32)) rfl rfl (to_in (pc := 72) rw_80_72 rfl (s_v (pc := 73) rw_80_73 (dp0 hd (by decide)) (ls0 := [.ref 1, .int (1 : Int32), .int (0 : Int32), .int f]) rfl (Nat.le_of_ble_eq_true rfl) (Nat.le_of_ble_eq_true rfl) rfl (to_rc rfl rfl rfl (g_o hG rfl)) rfl ?_))))
          have k_86 : (1 : Int32).toInt = 1 := rfl
          have k_87 : (0 : Int32).toInt = 0 := rfl
          refine C_82 hX (dp1 hd (by decide)) hG (t := (1 : Int32)) (v := (0 : Int32)) (w := f) (fun M92 hG89 F88 p_90 p_91 => ?_)
          have F93 := FR.c F0 F88 tg_206
          have b_94 := g_b hG89 (a := 1) (i := 5) (lo := 0) (hi := 501) rfl rfl
          refine to_go (pc := 76) rw_80_76 (to_i (pc := 97) rw_80_97 rfl (to_r0 (pc := 99) rw_80_99 ?_))
          exact h x4 M92 hG89 F93 (by omega) (by omega) (by omega)
      · refine to_in (pc := 6) rw_93_6 rfl (to_c (pc := 7) rw_93_7 (x := (122 : Int32)) rfl rfl (b_cgt (pc := 9) rw_93_9 (A := v48.toInt) (B := 122) rfl rfl (fun h95 => ?_) (fun h95 => ?_)))
        · refine to_c (pc := 16) rw_93_16 (x := (0 : Int32)) rfl rfl (s_r1 (pc := 17) rw_93_17 (A := 0) rfl (by decide) (b_ieq_t (pc := 20) rw_80_20 (A := 0) rfl (by decide) (to_i (pc := 60) rw_80_60 rfl (to_in (pc := 62) rw_80_62 rfl (s_sub (pc := 63) rw_80_63 (A := x4.toInt) (B := f.toInt) rfl rfl (by omega) (fun v96 e97 => to_c (pc := 64) rw_80_64 (x := (6 : Int32)) rfl rfl (b_cle (pc := 66) rw_80_66 (A := v96.toInt) (B := 6) rfl rfl (fun h98 => ?_) (fun h98 => ?_))))))))
          · refine to_an (pc := 79) rw_80_79 rfl (to_in (pc := 80) rw_80_80 rfl (s_s (pc := 81) rw_80_81 (dp0 hd (by decide)) (ls0 := [.int x3, .null, .null, .null, .null]) rfl (Nat.le_of_ble_eq_true rfl) (Nat.le_of_ble_eq_true rfl) rfl (to_rcs rfl rfl) rfl (C_96 hX (dp1 hd (by decide)) hG (x := x3) (fun r99 M104 hG101 F100 p_102 p_103 => ?_))))
            have F105 := FR.c F0 F100 tg_205
            refine b_ieq (pc := 84) rw_80_84 (A := r99.toInt) rfl (fun h106 => ?_) (fun h106 => ?_)
            · refine to_c (pc := 91) rw_80_91 (x := (3 : Int32)) rfl rfl (to_in (pc := 92) rw_80_92 rfl (to_in (pc := 93) rw_80_93 rfl (s_v (pc := 94) rw_80_94 (dp0 hd (by decide)) (ls0 := [.ref 1, .int (3 : Int32), .int x3, .int f]) rfl (Nat.le_of_ble_eq_true rfl) (Nat.le_of_ble_eq_true rfl) rfl (to_rc rfl rfl rfl (g_o hG101 rfl)) rfl ?_)))
              have k_107 : (3 : Int32).toInt = 3 := rfl
              have c_108 : M104.2.1 1 10 = (N.2.1 1 10) := (F_n F100 (show ¬ (1 < 0) by decide) rfl)
              have t_109 : (M104.2.1 1 10).toInt = (N.2.1 1 10).toInt := congrArg Int32.toInt c_108
              have c_110 : M104.2.1 1 11 = (N.2.1 1 11) := (F_n F100 (show ¬ (1 < 0) by decide) rfl)
              have t_111 : (M104.2.1 1 11).toInt = (N.2.1 1 11).toInt := congrArg Int32.toInt c_110
              refine C_82 hX (dp1 hd (by decide)) hG101 (t := (3 : Int32)) (v := x3) (w := f) (fun M116 hG113 F112 p_114 p_115 => ?_)
              have F117 := FR.c F105 F112 tg_206
              have b_118 := g_b hG113 (a := 1) (i := 5) (lo := 0) (hi := 501) rfl rfl
              refine to_i (pc := 97) rw_80_97 rfl (to_r0 (pc := 99) rw_80_99 ?_)
              exact h x4 M116 hG113 F117 (by omega) (by omega) (by omega)
            · refine to_c (pc := 87) rw_80_87 (x := (4 : Int32)) rfl rfl (to_go (pc := 88) rw_80_88 (to_in (pc := 92) rw_80_92 rfl (to_in (pc := 93) rw_80_93 rfl (s_v (pc := 94) rw_80_94 (dp0 hd (by decide)) (ls0 := [.ref 1, .int (4 : Int32), .int x3, .int f]) rfl (Nat.le_of_ble_eq_true rfl) (Nat.le_of_ble_eq_true rfl) rfl (to_rc rfl rfl rfl (g_o hG101 rfl)) rfl ?_))))
              have k_119 : (4 : Int32).toInt = 4 := rfl
              have c_120 : M104.2.1 1 10 = (N.2.1 1 10) := (F_n F100 (show ¬ (1 < 0) by decide) rfl)
              have t_121 : (M104.2.1 1 10).toInt = (N.2.1 1 10).toInt := congrArg Int32.toInt c_120
              have c_122 : M104.2.1 1 11 = (N.2.1 1 11) := (F_n F100 (show ¬ (1 < 0) by decide) rfl)
              have t_123 : (M104.2.1 1 11).toInt = (N.2.1 1 11).toInt := congrArg Int32.toInt c_122
              refine C_82 hX (dp1 hd (by decide)) hG101 (t := (4 : Int32)) (v := x3) (w := f) (fun M128 hG125 F124 p_126 p_127 => ?_)
              have F129 := FR.c F105 F124 tg_206
              have b_130 := g_b hG125 (a := 1) (i := 5) (lo := 0) (hi := 501) rfl rfl
              refine to_i (pc := 97) rw_80_97 rfl (to_r0 (pc := 99) rw_80_99 ?_)
              exact h x4 M128 hG125 F129 (by omega) (by omega) (by omega)
          · refine to_an (pc := 69) rw_80_69 rfl (to_c (pc := 70) rw_80_70 (x := (1 : Int32)) rfl rfl (to_c (pc := 71) rw_80_71 (x := (0 : Int32)) rfl rfl (to_in (pc := 72) rw_80_72 rfl (s_v (pc := 73) rw_80_73 (dp0 hd (by decide)) (ls0 := [.ref 1, .int (1 : Int32), .int (0 : Int32), .int f]) rfl (Nat.le_of_ble_eq_true rfl) (Nat.le_of_ble_eq_true rfl) rfl (to_rc rfl rfl rfl (g_o hG rfl)) rfl ?_))))
            have k_131 : (1 : Int32).toInt = 1 := rfl
            have k_132 : (0 : Int32).toInt = 0 := rfl
            refine C_82 hX (dp1 hd (by decide)) hG (t := (1 : Int32)) (v := (0 : Int32)) (w := f) (fun M137 hG134 F133 p_135 p_136 => ?_)
            have F138 := FR.c F0 F133 tg_206
            have b_139 := g_b hG134 (a := 1) (i := 5) (lo := 0) (hi := 501) rfl rfl
            refine to_go (pc := 76) rw_80_76 (to_i (pc := 97) rw_80_97 rfl (to_r0 (pc := 99) rw_80_99 ?_))
            exact h x4 M137 hG134 F138 (by omega) (by omega) (by omega)
        · refine to_c (pc := 12) rw_93_12 (x := (1 : Int32)) rfl rfl (to_go (pc := 13) rw_93_13 (s_r1 (pc := 17) rw_93_17 (A := 1) rfl (by decide) (b_ieq_f (pc := 20) rw_80_20 (A := 1) rfl (by decide) (to_i (pc := 23) rw_80_23 rfl (to_in (pc := 25) rw_80_25 rfl (s_sub (pc := 26) rw_80_26 (A := x4.toInt) (B := f.toInt) rfl rfl (by omega) (fun v140 e141 => to_c (pc := 27) rw_80_27 (x := (6 : Int32)) rfl rfl (b_cge (pc := 29) rw_80_29 (A := v140.toInt) (B := 6) rfl rfl (fun h142 => ?_) (fun h142 => ?_)))))))))
          · refine s_inc (pc := 54) rw_80_54 (ls2 := fun v => [.ref 1, .int f, .int n, .int x3, .int v]) rfl rfl (fun _ => rfl) (A := x4.toInt) (B := 1) rfl rfl (by omega) (fun v143 e144 => to_go (pc := 57) rw_80_57 ?_)
            exact ih N x3 v143 hG F0 (by omega) (by omega) (by omega) (by omega) (by omega) (by omega) (by omega) (by omega)
          · refine to_in (pc := 32) rw_80_32 rfl (to_an (pc := 33) rw_80_33 rfl (to_i (pc := 34) rw_80_34 rfl (s_v (pc := 36) rw_80_36 (dp0 hd (by decide)) (ls0 := [.ref 1, .int x4]) rfl (Nat.le_of_ble_eq_true rfl) (Nat.le_of_ble_eq_true rfl) rfl (to_rc rfl rfl rfl (g_o hG rfl)) rfl (to_in (pc := 0) rw_91_0 rfl (b_ilt_f (pc := 1) rw_91_1 (A := x4.toInt) rfl (by omega) (to_in (pc := 4) rw_91_4 rfl (to_an (pc := 5) rw_91_5 rfl (s_gR (pc := 6) rw_91_6 hG rfl (v := 2) rfl (s_len (pc := 9) rw_91_9 hG rfl rfl (n := 500) rfl (v := (500 : Int32)) rfl (b_cge_f (pc := 10) rw_91_10 (A := x4.toInt) (B := 500) rfl rfl (by omega) (to_an (pc := 13) rw_91_13 rfl ?_)))))))))))
            refine s_gR (pc := 14) rw_91_14 hG rfl (v := 2) rfl (to_in (pc := 17) rw_91_17 rfl (s_balk (pc := 18) rw_91_18 hG rfl (n := 500) rfl (A := x4.toInt) rfl (by omega) (by omega) (v := v46) w_47 (to_c (pc := 19) rw_91_19 (x := (255 : Int32)) rfl rfl (to_2 (pc := 22) rw_91_22 (v := v48) (congrArg some e49) (to_go (pc := 23) rw_91_23 (to_r0 (pc := 27) rw_91_27 (to_c (pc := 39) rw_80_39 (x := (31 : Int32)) rfl rfl (s_and (pc := 41) rw_80_41 (B := 31) rfl (by omega) (fun v149 e150 _ _ => to_c (pc := 42) rw_80_42 (x := (25 : Int32)) rfl rfl (to_c (pc := 44) rw_80_44 (x := (5 : Int32)) rfl rfl (to_i (pc := 45) rw_80_45 rfl ?_)))))))))))
            refine to_in (pc := 47) rw_80_47 rfl (s_sub (pc := 48) rw_80_48 (A := x4.toInt) (B := f.toInt) rfl rfl (by omega) (fun v151 e152 => s_mul (pc := 49) rw_80_49 (A := 5) (B := v151.toInt) rfl rfl (by omega) (fun v153 e154 => s_sub (pc := 50) rw_80_50 (A := 25) (B := v153.toInt) rfl rfl (by omega) (fun v155 e156 => s_any (pc := 51) rw_80_51 (fun _ _ => rfl) (fun v157 => s_any (pc := 52) rw_80_52 (fun _ _ => rfl) (fun v158 => to_isn (pc := 53) rw_80_53 (ls2 := [.ref 1, .int f, .int n, .int v158, .int x4]) rfl rfl (s_inc (pc := 54) rw_80_54 (ls2 := fun v => [.ref 1, .int f, .int n, .int v158, .int v]) rfl rfl (fun _ => rfl) (A := x4.toInt) (B := 1) rfl rfl (by omega) (fun v159 e160 => to_go (pc := 57) rw_80_57 ?_))))))))
            exact ih N v158 v159 hG F0 (by omega) (by omega) (by omega) (by omega) (by omega) (by omega) (by omega) (by omega)
set_option maxRecDepth 4000 in
set_option maxHeartbeats 0 in
theorem C_80 {X : mm_X} {d : Nat} {M : mm_M} {Q : Option Value → mm_M → Prop} {f : Int32} {n : Int32} (hX : g_X X) (hd : 1 ≤ d) (hG : g_G M) (q1 : 0 ≤ f.toInt) (q2 : f.toInt ≤ 500) (q3 : 0 ≤ n.toInt) (q4 : n.toInt ≤ 500) (h : ∀ (r : Int32) (M1 : mm_M), g_G M1 → FR md_t M M1 → (f.toInt ≤ r.toInt) → (r.toInt ≤ 500) → ((M1.2.1 1 10).toInt = (M.2.1 1 10).toInt ∧ (M1.2.1 1 11).toInt = (M.2.1 1 11).toInt) → Q (some (.int r)) M1) : mm_T X d 80 0 [.ref 1, .int f, .int n, .null, .null] [] M Q := by
  have F0 : FR md_t M M := FR.rf
  refine to_c (pc := 0) rw_80_0 (x := (0 : Int32)) rfl rfl (to_isn (pc := 1) rw_80_1 (ls2 := [.ref 1, .int f, .int n, .int (0 : Int32), .null]) rfl rfl (to_in (pc := 2) rw_80_2 rfl (to_is (pc := 3) rw_80_3 (ls2 := [.ref 1, .int f, .int n, .int (0 : Int32), .int f]) rfl rfl ?_)))
  have k_161 : (0 : Int32).toInt = 0 := rfl
  exact (T_80_0 (f := f) (n := n) hX hd q1 q2 q3 q4 h ((500 - f.toInt).toNat + 1)) M (0 : Int32) f hG F0 (by omega) (by omega) (by omega) (by omega) (by omega) (by omega) (by omega) (by omega)
set_option maxRecDepth 4000 in
set_option maxHeartbeats 0 in
theorem T_81_0 {X : mm_X} {d : Nat} {M : mm_M} {Q : Option Value → mm_M → Prop} {f : Int32} {n : Int32} (hX : g_X X) (hd : 1 ≤ d) (q1 : 0 ≤ f.toInt) (q2 : f.toInt ≤ 500) (q3 : 0 ≤ n.toInt) (q4 : n.toInt ≤ 500) (h : ∀ (r : Int32) (M1 : mm_M), g_G M1 → FR md_t M M1 → (f.toInt ≤ r.toInt) → (r.toInt ≤ 500) → ((M1.2.1 1 10).toInt = (M.2.1 1 10).toInt ∧ (M1.2.1 1 11).toInt = (M.2.1 1 11).toInt) → Q (some (.int r)) M1) : ∀ nn9 : Nat, (∀ (N : mm_M) (x3 : Int32) (x4 : Int32), g_G N → FR md_t M N → (0 ≤ x4.toInt) → (x4.toInt ≤ 500) → (f.toInt ≤ x4.toInt) → (0 ≤ f.toInt) → (n.toInt ≤ 500) → (x3.toInt ≤ 100) → (0 ≤ x3.toInt) → (f.toInt = f.toInt) → ((N.2.1 1 10).toInt = (M.2.1 1 10).toInt ∧ (N.2.1 1 11).toInt = (M.2.1 1 11).toInt) → 500 - x4.toInt < (nn9 : Int) → mm_T X d 81 5 [.ref 1, .int f, .int n, .int x3, .int x4] [] N Q) := by
  intro nn9
  induction nn9 with
  | zero =>
    intro N x3 x4 hG F0 g1 g2 g3 g4 g5 g6 g7 g8 g9 hm
    exfalso; omega
  | succ nn9 ih =>
    intro N x3 x4 hG F0 g1 g2 g3 g4 g5 g6 g7 g8 g9 hm
    refine to_i (pc := 5) rw_81_5 rfl (to_in (pc := 7) rw_81_7 rfl (b_cge (pc := 8) rw_81_8 (A := x4.toInt) (B := n.toInt) rfl rfl (fun h1 => ?_) (fun h1 => ?_)))
    · refine to_an (pc := 49) rw_81_49 rfl (to_c (pc := 50) rw_81_50 (x := (2 : Int32)) rfl rfl (to_in (pc := 51) rw_81_51 rfl (to_in (pc := 52) rw_81_52 rfl (s_v (pc := 53) rw_81_53 (dp0 hd (by decide)) (ls0 := [.ref 1, .int (2 : Int32), .int x3, .int f]) rfl (Nat.le_of_ble_eq_true rfl) (Nat.le_of_ble_eq_true rfl) rfl (to_rc rfl rfl rfl (g_o hG rfl)) rfl ?_))))
      have k_2 : (2 : Int32).toInt = 2 := rfl
      refine C_82 hX (dp1 hd (by decide)) hG (t := (2 : Int32)) (v := x3) (w := f) (fun M7 hG4 F3 p_5 p_6 => ?_)
      have F8 := FR.c F0 F3 tg_206
      have b_9 := g_b hG4 (a := 1) (i := 5) (lo := 0) (hi := 501) rfl rfl
      refine to_i (pc := 56) rw_81_56 rfl (to_r0 (pc := 58) rw_81_58 ?_)
      exact h x4 M7 hG4 F8 (by omega) (by omega) (by omega)
    · refine to_an (pc := 11) rw_81_11 rfl (to_i (pc := 12) rw_81_12 rfl (s_v (pc := 14) rw_81_14 (dp0 hd (by decide)) (ls0 := [.ref 1, .int x4]) rfl (Nat.le_of_ble_eq_true rfl) (Nat.le_of_ble_eq_true rfl) rfl (to_rc rfl rfl rfl (g_o hG rfl)) rfl (to_in (pc := 0) rw_91_0 rfl (b_ilt_f (pc := 1) rw_91_1 (A := x4.toInt) rfl (by omega) (to_in (pc := 4) rw_91_4 rfl (to_an (pc := 5) rw_91_5 rfl (s_gR (pc := 6) rw_91_6 hG rfl (v := 2) rfl (s_len (pc := 9) rw_91_9 hG rfl rfl (n := 500) rfl (v := (500 : Int32)) rfl (b_cge_f (pc := 10) rw_91_10 (A := x4.toInt) (B := 500) rfl rfl (by omega) (to_an (pc := 13) rw_91_13 rfl (s_gR (pc := 14) rw_91_14 hG rfl (v := 2) rfl ?_)))))))))))
      refine to_in (pc := 17) rw_91_17 rfl (s_bal (pc := 18) rw_91_18 hG rfl (n := 500) rfl (A := x4.toInt) rfl (by omega) (by omega) (lo := -2147483648) (hi := 2147483647) rfl rfl (fun v10 w_11 _ _ => to_c (pc := 19) rw_91_19 (x := (255 : Int32)) rfl rfl (s_and (pc := 22) rw_91_22 (B := 255) rfl (by omega) (fun v12 e13 _ _ => to_go (pc := 23) rw_91_23 (to_r0 (pc := 27) rw_91_27 (s_s (pc := 17) rw_81_17 (dp0 hd (by decide)) (ls0 := [.int v12]) rfl (Nat.le_of_ble_eq_true rfl) (Nat.le_of_ble_eq_true rfl) rfl (to_rcs rfl rfl) rfl (to_in (pc := 0) rw_94_0 rfl (to_c (pc := 1) rw_94_1 (x := (48 : Int32)) rfl rfl (b_clt (pc := 3) rw_94_3 (A := v12.toInt) (B := 48) rfl rfl (fun h14 => ?_) (fun h14 => ?_))))))))))
      · refine to_c (pc := 16) rw_94_16 (x := (0 : Int32)) rfl rfl (s_r1 (pc := 17) rw_94_17 (A := 0) rfl (by decide) (b_ieq_t (pc := 20) rw_81_20 (A := 0) rfl (by decide) (to_an (pc := 49) rw_81_49 rfl (to_c (pc := 50) rw_81_50 (x := (2 : Int32)) rfl rfl (to_in (pc := 51) rw_81_51 rfl (to_in (pc := 52) rw_81_52 rfl (s_v (pc := 53) rw_81_53 (dp0 hd (by decide)) (ls0 := [.ref 1, .int (2 : Int32), .int x3, .int f]) rfl (Nat.le_of_ble_eq_true rfl) (Nat.le_of_ble_eq_true rfl) rfl (to_rc rfl rfl rfl (g_o hG rfl)) rfl ?_)))))))
        have k_15 : (2 : Int32).toInt = 2 := rfl
        refine C_82 hX (dp1 hd (by decide)) hG (t := (2 : Int32)) (v := x3) (w := f) (fun M20 hG17 F16 p_18 p_19 => ?_)
        have F21 := FR.c F0 F16 tg_206
        have b_22 := g_b hG17 (a := 1) (i := 5) (lo := 0) (hi := 501) rfl rfl
        refine to_i (pc := 56) rw_81_56 rfl (to_r0 (pc := 58) rw_81_58 ?_)
        exact h x4 M20 hG17 F21 (by omega) (by omega) (by omega)
      · refine to_in (pc := 6) rw_94_6 rfl (to_c (pc := 7) rw_94_7 (x := (57 : Int32)) rfl rfl (b_cgt (pc := 9) rw_94_9 (A := v12.toInt) (B := 57) rfl rfl (fun h23 => ?_) (fun h23 => ?_)))
        · refine to_c (pc := 16) rw_94_16 (x := (0 : Int32)) rfl rfl (s_r1 (pc := 17) rw_94_17 (A := 0) rfl (by decide) (b_ieq_t (pc := 20) rw_81_20 (A := 0) rfl (by decide) (to_an (pc := 49) rw_81_49 rfl (to_c (pc := 50) rw_81_50 (x := (2 : Int32)) rfl rfl (to_in (pc := 51) rw_81_51 rfl (to_in (pc := 52) rw_81_52 rfl (s_v (pc := 53) rw_81_53 (dp0 hd (by decide)) (ls0 := [.ref 1, .int (2 : Int32), .int x3, .int f]) rfl (Nat.le_of_ble_eq_true rfl) (Nat.le_of_ble_eq_true rfl) rfl (to_rc rfl rfl rfl (g_o hG rfl)) rfl ?_)))))))
          have k_24 : (2 : Int32).toInt = 2 := rfl
          refine C_82 hX (dp1 hd (by decide)) hG (t := (2 : Int32)) (v := x3) (w := f) (fun M29 hG26 F25 p_27 p_28 => ?_)
          have F30 := FR.c F0 F25 tg_206
          have b_31 := g_b hG26 (a := 1) (i := 5) (lo := 0) (hi := 501) rfl rfl
          refine to_i (pc := 56) rw_81_56 rfl (to_r0 (pc := 58) rw_81_58 ?_)
          exact h x4 M29 hG26 F30 (by omega) (by omega) (by omega)
        · refine to_c (pc := 12) rw_94_12 (x := (1 : Int32)) rfl rfl (to_go (pc := 13) rw_94_13 (s_r1 (pc := 17) rw_94_17 (A := 1) rfl (by decide) (b_ieq_f (pc := 20) rw_81_20 (A := 1) rfl (by decide) (to_in (pc := 23) rw_81_23 rfl (to_c (pc := 24) rw_81_24 (x := (10 : Int32)) rfl rfl (s_mul (pc := 26) rw_81_26 (A := x3.toInt) (B := 10) rfl rfl (by omega) (fun v32 e33 => to_an (pc := 27) rw_81_27 rfl (to_i (pc := 28) rw_81_28 rfl (s_v (pc := 30) rw_81_30 (dp0 hd (by decide)) (ls0 := [.ref 1, .int x4]) rfl (Nat.le_of_ble_eq_true rfl) (Nat.le_of_ble_eq_true rfl) rfl (to_rc rfl rfl rfl (g_o hG rfl)) rfl (to_in (pc := 0) rw_91_0 rfl (b_ilt_f (pc := 1) rw_91_1 (A := x4.toInt) rfl (by omega) ?_)))))))))))
          refine to_in (pc := 4) rw_91_4 rfl (to_an (pc := 5) rw_91_5 rfl (s_gR (pc := 6) rw_91_6 hG rfl (v := 2) rfl (s_len (pc := 9) rw_91_9 hG rfl rfl (n := 500) rfl (v := (500 : Int32)) rfl (b_cge_f (pc := 10) rw_91_10 (A := x4.toInt) (B := 500) rfl rfl (by omega) (to_an (pc := 13) rw_91_13 rfl (s_gR (pc := 14) rw_91_14 hG rfl (v := 2) rfl (to_in (pc := 17) rw_91_17 rfl (s_balk (pc := 18) rw_91_18 hG rfl (n := 500) rfl (A := x4.toInt) rfl (by omega) (by omega) (v := v10) w_11 (to_c (pc := 19) rw_91_19 (x := (255 : Int32)) rfl rfl (to_2 (pc := 22) rw_91_22 (v := v12) (congrArg some e13) (to_go (pc := 23) rw_91_23 ?_)))))))))))
          refine to_r0 (pc := 27) rw_91_27 (s_add (pc := 33) rw_81_33 (A := v32.toInt) (B := v12.toInt) rfl rfl (by omega) (fun v38 e39 => to_c (pc := 34) rw_81_34 (x := (48 : Int32)) rfl rfl (s_sub (pc := 36) rw_81_36 (A := v38.toInt) (B := 48) rfl rfl (by omega) (fun v40 e41 => to_c (pc := 37) rw_81_37 (x := (100 : Int32)) rfl rfl (s_min (pc := 39) rw_81_39 rfl (A := v40.toInt) (B := 100) rfl rfl (fun v42 _ _ _ => to_isn (pc := 42) rw_81_42 (ls2 := [.ref 1, .int f, .int n, .int v42, .int x4]) rfl rfl (s_inc (pc := 43) rw_81_43 (ls2 := fun v => [.ref 1, .int f, .int n, .int v42, .int v]) rfl rfl (fun _ => rfl) (A := x4.toInt) (B := 1) rfl rfl (by omega) (fun v43 e44 => to_go (pc := 46) rw_81_46 ?_))))))))
          exact ih N v42 v43 hG F0 (by omega) (by omega) (by omega) (by omega) (by omega) (by omega) (by omega) (by omega) (by omega) (by omega)
set_option maxRecDepth 4000 in
set_option maxHeartbeats 0 in
theorem C_81 {X : mm_X} {d : Nat} {M : mm_M} {Q : Option Value → mm_M → Prop} {f : Int32} {n : Int32} (hX : g_X X) (hd : 1 ≤ d) (hG : g_G M) (q1 : 0 ≤ f.toInt) (q2 : f.toInt ≤ 500) (q3 : 0 ≤ n.toInt) (q4 : n.toInt ≤ 500) (h : ∀ (r : Int32) (M1 : mm_M), g_G M1 → FR md_t M M1 → (f.toInt ≤ r.toInt) → (r.toInt ≤ 500) → ((M1.2.1 1 10).toInt = (M.2.1 1 10).toInt ∧ (M1.2.1 1 11).toInt = (M.2.1 1 11).toInt) → Q (some (.int r)) M1) : mm_T X d 81 0 [.ref 1, .int f, .int n, .null, .null] [] M Q := by
  have F0 : FR md_t M M := FR.rf
  refine to_c (pc := 0) rw_81_0 (x := (0 : Int32)) rfl rfl (to_isn (pc := 1) rw_81_1 (ls2 := [.ref 1, .int f, .int n, .int (0 : Int32), .null]) rfl rfl (to_in (pc := 2) rw_81_2 rfl (to_is (pc := 3) rw_81_3 (ls2 := [.ref 1, .int f, .int n, .int (0 : Int32), .int f]) rfl rfl ?_)))
  have k_45 : (0 : Int32).toInt = 0 := rfl
  exact (T_81_0 (f := f) (n := n) hX hd q1 q2 q3 q4 h ((500 - f.toInt).toNat + 1)) M (0 : Int32) f hG F0 (by omega) (by omega) (by omega) (by omega) (by omega) (by omega) (by omega) (by omega) (by omega) (by omega)
set_option maxRecDepth 4000 in
set_option maxHeartbeats 0 in
theorem T_79_0 {X : mm_X} {d : Nat} {M : mm_M} {Q : Option Value → mm_M → Prop} {n : Int32} (hX : g_X X) (hd : 2 ≤ d) (q1 : 0 ≤ n.toInt) (q2 : n.toInt ≤ 500) (h : ∀ (M1 : mm_M), g_G M1 → FR md_t M M1 → (1 ≤ (M1.2.1 1 5).toInt) → ((M1.2.1 1 10).toInt = (M.2.1 1 10).toInt ∧ (M1.2.1 1 11).toInt = (M.2.1 1 11).toInt) → Q (none) M1) : ∀ nn9 : Nat, (∀ (N : mm_M) (x2 : Int32) (u3 : Value) (u4 : Value), g_G N → FR md_t M N → (0 ≤ x2.toInt) → (x2.toInt ≤ 500) → (0 ≤ n.toInt) → (n.toInt ≤ 500) → ((N.2.1 1 10).toInt = (M.2.1 1 10).toInt ∧ (N.2.1 1 11).toInt = (M.2.1 1 11).toInt) → 500 - x2.toInt < (nn9 : Int) → mm_T X d 79 7 [.ref 1, .int n, .int x2, u3, u4] [] N Q) := by
  intro nn9
  induction nn9 with
  | zero =>
    intro N x2 u3 u4 hG F0 g1 g2 g3 g4 g5 hm
    exfalso; omega
  | succ nn9 ih =>
    intro N x2 u3 u4 hG F0 g1 g2 g3 g4 g5 hm
    refine to_in (pc := 7) rw_79_7 rfl (to_in (pc := 8) rw_79_8 rfl (b_cge (pc := 9) rw_79_9 (A := x2.toInt) (B := n.toInt) rfl rfl (fun h1 => ?_) (fun h1 => ?_)))
    · refine to_an (pc := 96) rw_79_96 rfl (to_c (pc := 97) rw_79_97 (x := (0 : Int32)) rfl rfl (to_c (pc := 98) rw_79_98 (x := (0 : Int32)) rfl rfl (to_in (pc := 99) rw_79_99 rfl (s_v (pc := 100) rw_79_100 (dp0 hd (by decide)) (ls0 := [.ref 1, .int (0 : Int32), .int (0 : Int32), .int n]) rfl (Nat.le_of_ble_eq_true rfl) (Nat.le_of_ble_eq_true rfl) rfl (to_rc rfl rfl rfl (g_o hG rfl)) rfl ?_))))
      have k_2 : (0 : Int32).toInt = 0 := rfl
      refine C_82 hX (dp1 hd (by decide)) hG (t := (0 : Int32)) (v := (0 : Int32)) (w := n) (fun M7 hG4 F3 p_5 p_6 => ?_)
      have F8 := FR.c F0 F3 tg_206
      have b_9 := g_b hG4 (a := 1) (i := 5) (lo := 0) (hi := 501) rfl rfl
      refine to_rv (pc := 103) rw_79_103 ?_
      exact h M7 hG4 F8 (by omega) (by omega)
    · refine to_an (pc := 12) rw_79_12 rfl (to_in (pc := 13) rw_79_13 rfl (s_v (pc := 14) rw_79_14 (dp0 hd (by decide)) (ls0 := [.ref 1, .int x2]) rfl (Nat.le_of_ble_eq_true rfl) (Nat.le_of_ble_eq_true rfl) rfl (to_rc rfl rfl rfl (g_o hG rfl)) rfl (to_in (pc := 0) rw_91_0 rfl (b_ilt_f (pc := 1) rw_91_1 (A := x2.toInt) rfl (by omega) (to_in (pc := 4) rw_91_4 rfl (to_an (pc := 5) rw_91_5 rfl (s_gR (pc := 6) rw_91_6 hG rfl (v := 2) rfl (s_len (pc := 9) rw_91_9 hG rfl rfl (n := 500) rfl (v := (500 : Int32)) rfl (b_cge_f (pc := 10) rw_91_10 (A := x2.toInt) (B := 500) rfl rfl (by omega) (to_an (pc := 13) rw_91_13 rfl (s_gR (pc := 14) rw_91_14 hG rfl (v := 2) rfl ?_)))))))))))
      refine to_in (pc := 17) rw_91_17 rfl (s_bal (pc := 18) rw_91_18 hG rfl (n := 500) rfl (A := x2.toInt) rfl (by omega) (by omega) (lo := -2147483648) (hi := 2147483647) rfl rfl (fun v10 w_11 _ _ => to_c (pc := 19) rw_91_19 (x := (255 : Int32)) rfl rfl (s_and (pc := 22) rw_91_22 (B := 255) rfl (by omega) (fun v12 e13 _ _ => to_go (pc := 23) rw_91_23 (to_r0 (pc := 27) rw_91_27 (to_isn (pc := 17) rw_79_17 (ls2 := [.ref 1, .int n, .int x2, .int v12, u4]) rfl rfl (to_in (pc := 18) rw_79_18 rfl (to_c (pc := 19) rw_79_19 (x := (1 : Int32)) rfl rfl (s_add (pc := 20) rw_79_20 (A := x2.toInt) (B := 1) rfl rfl (by omega) (fun v14 e15 => to_is (pc := 21) rw_79_21 (ls2 := [.ref 1, .int n, .int x2, .int v12, .int v14]) rfl rfl (to_in (pc := 23) rw_79_23 rfl ?_)))))))))))
      refine s_s (pc := 24) rw_79_24 (dp0 hd (by decide)) (ls0 := [.int v12]) rfl (Nat.le_of_ble_eq_true rfl) (Nat.le_of_ble_eq_true rfl) rfl (to_rcs rfl rfl) rfl (to_in (pc := 0) rw_93_0 rfl (to_c (pc := 1) rw_93_1 (x := (97 : Int32)) rfl rfl (b_clt (pc := 3) rw_93_3 (A := v12.toInt) (B := 97) rfl rfl (fun h16 => ?_) (fun h16 => ?_))))
      · refine to_c (pc := 16) rw_93_16 (x := (0 : Int32)) rfl rfl (s_r1 (pc := 17) rw_93_17 (A := 0) rfl (by decide) (b_ieq_t (pc := 27) rw_79_27 (A := 0) rfl (by decide) (to_in (pc := 41) rw_79_41 rfl (s_s (pc := 42) rw_79_42 (dp0 hd (by decide)) (ls0 := [.int v12]) rfl (Nat.le_of_ble_eq_true rfl) (Nat.le_of_ble_eq_true rfl) rfl (to_rcs rfl rfl) rfl (to_in (pc := 0) rw_94_0 rfl (to_c (pc := 1) rw_94_1 (x := (48 : Int32)) rfl rfl (b_clt (pc := 3) rw_94_3 (A := v12.toInt) (B := 48) rfl rfl (fun h17 => ?_) (fun h17 => ?_))))))))
        · refine to_c (pc := 16) rw_94_16 (x := (0 : Int32)) rfl rfl (s_r1 (pc := 17) rw_94_17 (A := 0) rfl (by decide) (b_ieq_t (pc := 45) rw_79_45 (A := 0) rfl (by decide) (to_in (pc := 59) rw_79_59 rfl (s_s (pc := 60) rw_79_60 (dp0 hd (by decide)) (ls0 := [.int v12]) rfl (Nat.le_of_ble_eq_true rfl) (Nat.le_of_ble_eq_true rfl) rfl (to_rcs rfl rfl) rfl (to_in (pc := 0) rw_92_0 rfl (to_c (pc := 1) rw_92_1 (x := (10 : Int32)) rfl rfl (b_ceq (pc := 3) rw_92_3 (A := v12.toInt) (B := 10) rfl rfl (fun h18 => ?_) (fun h18 => ?_))))))))
          · refine to_c (pc := 12) rw_92_12 (x := (1 : Int32)) rfl rfl (to_go (pc := 13) rw_92_13 (s_r1 (pc := 17) rw_92_17 (A := 1) rfl (by decide) (b_ine_t (pc := 63) rw_79_63 (A := 1) rfl (by decide) (to_in (pc := 84) rw_79_84 rfl (to_c (pc := 85) rw_79_85 (x := (1 : Int32)) rfl rfl (s_add (pc := 86) rw_79_86 (A := x2.toInt) (B := 1) rfl rfl (by omega) (fun v19 e20 => to_i (pc := 87) rw_79_87 rfl (s_max (pc := 89) rw_79_89 rfl (A := v19.toInt) (B := v14.toInt) rfl rfl (fun v21 _ _ _ => to_isn (pc := 92) rw_79_92 (ls2 := [.ref 1, .int n, .int v21, .int v12, .int v14]) rfl rfl (to_go (pc := 93) rw_79_93 ?_))))))))))
            exact ih N v21 (.int v12) (.int v14) hG F0 (by omega) (by omega) (by omega) (by omega) (by omega) (by omega)
          · refine to_in (pc := 6) rw_92_6 rfl (to_c (pc := 7) rw_92_7 (x := (32 : Int32)) rfl rfl (b_cne (pc := 9) rw_92_9 (A := v12.toInt) (B := 32) rfl rfl (fun h22 => ?_) (fun h22 => ?_)))
            · refine to_c (pc := 16) rw_92_16 (x := (0 : Int32)) rfl rfl (s_r1 (pc := 17) rw_92_17 (A := 0) rfl (by decide) (b_ine_f (pc := 63) rw_79_63 (A := 0) rfl (by decide) (to_an (pc := 66) rw_79_66 rfl (to_in (pc := 67) rw_79_67 rfl (s_s (pc := 68) rw_79_68 (dp0 hd (by decide)) (ls0 := [.int v12]) rfl (Nat.le_of_ble_eq_true rfl) (Nat.le_of_ble_eq_true rfl) rfl (to_rcs rfl rfl) rfl (to_in (pc := 0) rw_95_0 rfl (to_c (pc := 1) rw_95_1 (x := (59 : Int32)) rfl rfl (b_ceq_f (pc := 3) rw_95_3 (A := v12.toInt) (B := 59) rfl rfl (by omega) (to_in (pc := 6) rw_95_6 rfl (to_c (pc := 7) rw_95_7 (x := (40 : Int32)) rfl rfl (b_ceq (pc := 9) rw_95_9 (A := v12.toInt) (B := 40) rfl rfl (fun h23 => ?_) (fun h23 => ?_))))))))))))
              · refine to_c (pc := 24) rw_95_24 (x := (1 : Int32)) rfl rfl (to_go (pc := 25) rw_95_25 (s_r1 (pc := 29) rw_95_29 (A := 1) rfl (by decide) (b_ieq_f (pc := 71) rw_79_71 (A := 1) rfl (by decide) (to_in (pc := 74) rw_79_74 rfl (to_go (pc := 75) rw_79_75 (to_c (pc := 79) rw_79_79 (x := (0 : Int32)) rfl rfl (to_in (pc := 80) rw_79_80 rfl (s_v (pc := 81) rw_79_81 (dp0 hd (by decide)) (ls0 := [.ref 1, .int v12, .int (0 : Int32), .int x2]) rfl (Nat.le_of_ble_eq_true rfl) (Nat.le_of_ble_eq_true rfl) rfl (to_rc rfl rfl rfl (g_o hG rfl)) rfl ?_))))))))
                have k_24 : (0 : Int32).toInt = 0 := rfl
                refine C_82 hX (dp1 hd (by decide)) hG (t := v12) (v := (0 : Int32)) (w := x2) (fun M29 hG26 F25 p_27 p_28 => ?_)
                have F30 := FR.c F0 F25 tg_206
                have b_31 := g_b hG26 (a := 1) (i := 5) (lo := 0) (hi := 501) rfl rfl
                refine to_in (pc := 84) rw_79_84 rfl (to_c (pc := 85) rw_79_85 (x := (1 : Int32)) rfl rfl (s_add (pc := 86) rw_79_86 (A := x2.toInt) (B := 1) rfl rfl (by omega) (fun v32 e33 => to_i (pc := 87) rw_79_87 rfl (s_max (pc := 89) rw_79_89 rfl (A := v32.toInt) (B := v14.toInt) rfl rfl (fun v34 _ _ _ => to_isn (pc := 92) rw_79_92 (ls2 := [.ref 1, .int n, .int v34, .int v12, .int v14]) rfl rfl (to_go (pc := 93) rw_79_93 ?_))))))
                exact ih M29 v34 (.int v12) (.int v14) hG26 F30 (by omega) (by omega) (by omega) (by omega) (by omega) (by omega)
              · refine to_in (pc := 12) rw_95_12 rfl (to_c (pc := 13) rw_95_13 (x := (41 : Int32)) rfl rfl (b_ceq (pc := 15) rw_95_15 (A := v12.toInt) (B := 41) rfl rfl (fun h35 => ?_) (fun h35 => ?_)))
                · refine to_c (pc := 24) rw_95_24 (x := (1 : Int32)) rfl rfl (to_go (pc := 25) rw_95_25 (s_r1 (pc := 29) rw_95_29 (A := 1) rfl (by decide) (b_ieq_f (pc := 71) rw_79_71 (A := 1) rfl (by decide) (to_in (pc := 74) rw_79_74 rfl (to_go (pc := 75) rw_79_75 (to_c (pc := 79) rw_79_79 (x := (0 : Int32)) rfl rfl (to_in (pc := 80) rw_79_80 rfl (s_v (pc := 81) rw_79_81 (dp0 hd (by decide)) (ls0 := [.ref 1, .int v12, .int (0 : Int32), .int x2]) rfl (Nat.le_of_ble_eq_true rfl) (Nat.le_of_ble_eq_true rfl) rfl (to_rc rfl rfl rfl (g_o hG rfl)) rfl ?_))))))))
                  have k_36 : (0 : Int32).toInt = 0 := rfl
                  refine C_82 hX (dp1 hd (by decide)) hG (t := v12) (v := (0 : Int32)) (w := x2) (fun M41 hG38 F37 p_39 p_40 => ?_)
                  have F42 := FR.c F0 F37 tg_206
                  have b_43 := g_b hG38 (a := 1) (i := 5) (lo := 0) (hi := 501) rfl rfl
                  refine to_in (pc := 84) rw_79_84 rfl (to_c (pc := 85) rw_79_85 (x := (1 : Int32)) rfl rfl (s_add (pc := 86) rw_79_86 (A := x2.toInt) (B := 1) rfl rfl (by omega) (fun v44 e45 => to_i (pc := 87) rw_79_87 rfl (s_max (pc := 89) rw_79_89 rfl (A := v44.toInt) (B := v14.toInt) rfl rfl (fun v46 _ _ _ => to_isn (pc := 92) rw_79_92 (ls2 := [.ref 1, .int n, .int v46, .int v12, .int v14]) rfl rfl (to_go (pc := 93) rw_79_93 ?_))))))
                  exact ih M41 v46 (.int v12) (.int v14) hG38 F42 (by omega) (by omega) (by omega) (by omega) (by omega) (by omega)
                · refine to_in (pc := 18) rw_95_18 rfl (to_c (pc := 19) rw_95_19 (x := (61 : Int32)) rfl rfl (b_cne_t (pc := 21) rw_95_21 (A := v12.toInt) (B := 61) rfl rfl (by omega) (to_c (pc := 28) rw_95_28 (x := (0 : Int32)) rfl rfl (s_r1 (pc := 29) rw_95_29 (A := 0) rfl (by decide) (b_ieq_t (pc := 71) rw_79_71 (A := 0) rfl (by decide) (to_c (pc := 78) rw_79_78 (x := (1 : Int32)) rfl rfl (to_c (pc := 79) rw_79_79 (x := (0 : Int32)) rfl rfl (to_in (pc := 80) rw_79_80 rfl (s_v (pc := 81) rw_79_81 (dp0 hd (by decide)) (ls0 := [.ref 1, .int (1 : Int32), .int (0 : Int32), .int x2]) rfl (Nat.le_of_ble_eq_true rfl) (Nat.le_of_ble_eq_true rfl) rfl (to_rc rfl rfl rfl (g_o hG rfl)) rfl ?_)))))))))
                  have k_47 : (1 : Int32).toInt = 1 := rfl
                  have k_48 : (0 : Int32).toInt = 0 := rfl
                  refine C_82 hX (dp1 hd (by decide)) hG (t := (1 : Int32)) (v := (0 : Int32)) (w := x2) (fun M53 hG50 F49 p_51 p_52 => ?_)
                  have F54 := FR.c F0 F49 tg_206
                  have b_55 := g_b hG50 (a := 1) (i := 5) (lo := 0) (hi := 501) rfl rfl
                  refine to_in (pc := 84) rw_79_84 rfl (to_c (pc := 85) rw_79_85 (x := (1 : Int32)) rfl rfl (s_add (pc := 86) rw_79_86 (A := x2.toInt) (B := 1) rfl rfl (by omega) (fun v56 e57 => to_i (pc := 87) rw_79_87 rfl (s_max (pc := 89) rw_79_89 rfl (A := v56.toInt) (B := v14.toInt) rfl rfl (fun v58 _ _ _ => to_isn (pc := 92) rw_79_92 (ls2 := [.ref 1, .int n, .int v58, .int v12, .int v14]) rfl rfl (to_go (pc := 93) rw_79_93 ?_))))))
                  exact ih M53 v58 (.int v12) (.int v14) hG50 F54 (by omega) (by omega) (by omega) (by omega) (by omega) (by omega)
            · refine to_c (pc := 12) rw_92_12 (x := (1 : Int32)) rfl rfl (to_go (pc := 13) rw_92_13 (s_r1 (pc := 17) rw_92_17 (A := 1) rfl (by decide) (b_ine_t (pc := 63) rw_79_63 (A := 1) rfl (by decide) (to_in (pc := 84) rw_79_84 rfl (to_c (pc := 85) rw_79_85 (x := (1 : Int32)) rfl rfl (s_add (pc := 86) rw_79_86 (A := x2.toInt) (B := 1) rfl rfl (by omega) (fun v59 e60 => to_i (pc := 87) rw_79_87 rfl (s_max (pc := 89) rw_79_89 rfl (A := v59.toInt) (B := v14.toInt) rfl rfl (fun v61 _ _ _ => to_isn (pc := 92) rw_79_92 (ls2 := [.ref 1, .int n, .int v61, .int v12, .int v14]) rfl rfl (to_go (pc := 93) rw_79_93 ?_))))))))))
              exact ih N v61 (.int v12) (.int v14) hG F0 (by omega) (by omega) (by omega) (by omega) (by omega) (by omega)
        · refine to_in (pc := 6) rw_94_6 rfl (to_c (pc := 7) rw_94_7 (x := (57 : Int32)) rfl rfl (b_cgt (pc := 9) rw_94_9 (A := v12.toInt) (B := 57) rfl rfl (fun h62 => ?_) (fun h62 => ?_)))
          · refine to_c (pc := 16) rw_94_16 (x := (0 : Int32)) rfl rfl (s_r1 (pc := 17) rw_94_17 (A := 0) rfl (by decide) (b_ieq_t (pc := 45) rw_79_45 (A := 0) rfl (by decide) (to_in (pc := 59) rw_79_59 rfl (s_s (pc := 60) rw_79_60 (dp0 hd (by decide)) (ls0 := [.int v12]) rfl (Nat.le_of_ble_eq_true rfl) (Nat.le_of_ble_eq_true rfl) rfl (to_rcs rfl rfl) rfl (to_in (pc := 0) rw_92_0 rfl (to_c (pc := 1) rw_92_1 (x := (10 : Int32)) rfl rfl (b_ceq_f (pc := 3) rw_92_3 (A := v12.toInt) (B := 10) rfl rfl (by omega) (to_in (pc := 6) rw_92_6 rfl (to_c (pc := 7) rw_92_7 (x := (32 : Int32)) rfl rfl (b_cne_t (pc := 9) rw_92_9 (A := v12.toInt) (B := 32) rfl rfl (by omega) (to_c (pc := 16) rw_92_16 (x := (0 : Int32)) rfl rfl ?_)))))))))))
            refine s_r1 (pc := 17) rw_92_17 (A := 0) rfl (by decide) (b_ine_f (pc := 63) rw_79_63 (A := 0) rfl (by decide) (to_an (pc := 66) rw_79_66 rfl (to_in (pc := 67) rw_79_67 rfl (s_s (pc := 68) rw_79_68 (dp0 hd (by decide)) (ls0 := [.int v12]) rfl (Nat.le_of_ble_eq_true rfl) (Nat.le_of_ble_eq_true rfl) rfl (to_rcs rfl rfl) rfl (to_in (pc := 0) rw_95_0 rfl (to_c (pc := 1) rw_95_1 (x := (59 : Int32)) rfl rfl (b_ceq (pc := 3) rw_95_3 (A := v12.toInt) (B := 59) rfl rfl (fun h63 => ?_) (fun h63 => ?_))))))))
            · refine to_c (pc := 24) rw_95_24 (x := (1 : Int32)) rfl rfl (to_go (pc := 25) rw_95_25 (s_r1 (pc := 29) rw_95_29 (A := 1) rfl (by decide) (b_ieq_f (pc := 71) rw_79_71 (A := 1) rfl (by decide) (to_in (pc := 74) rw_79_74 rfl (to_go (pc := 75) rw_79_75 (to_c (pc := 79) rw_79_79 (x := (0 : Int32)) rfl rfl (to_in (pc := 80) rw_79_80 rfl (s_v (pc := 81) rw_79_81 (dp0 hd (by decide)) (ls0 := [.ref 1, .int v12, .int (0 : Int32), .int x2]) rfl (Nat.le_of_ble_eq_true rfl) (Nat.le_of_ble_eq_true rfl) rfl (to_rc rfl rfl rfl (g_o hG rfl)) rfl ?_))))))))
              have k_64 : (0 : Int32).toInt = 0 := rfl
              refine C_82 hX (dp1 hd (by decide)) hG (t := v12) (v := (0 : Int32)) (w := x2) (fun M69 hG66 F65 p_67 p_68 => ?_)
              have F70 := FR.c F0 F65 tg_206
              have b_71 := g_b hG66 (a := 1) (i := 5) (lo := 0) (hi := 501) rfl rfl
              refine to_in (pc := 84) rw_79_84 rfl (to_c (pc := 85) rw_79_85 (x := (1 : Int32)) rfl rfl (s_add (pc := 86) rw_79_86 (A := x2.toInt) (B := 1) rfl rfl (by omega) (fun v72 e73 => to_i (pc := 87) rw_79_87 rfl (s_max (pc := 89) rw_79_89 rfl (A := v72.toInt) (B := v14.toInt) rfl rfl (fun v74 _ _ _ => to_isn (pc := 92) rw_79_92 (ls2 := [.ref 1, .int n, .int v74, .int v12, .int v14]) rfl rfl (to_go (pc := 93) rw_79_93 ?_))))))
              exact ih M69 v74 (.int v12) (.int v14) hG66 F70 (by omega) (by omega) (by omega) (by omega) (by omega) (by omega)
            · refine to_in (pc := 6) rw_95_6 rfl (to_c (pc := 7) rw_95_7 (x := (40 : Int32)) rfl rfl (b_ceq_f (pc := 9) rw_95_9 (A := v12.toInt) (B := 40) rfl rfl (by omega) (to_in (pc := 12) rw_95_12 rfl (to_c (pc := 13) rw_95_13 (x := (41 : Int32)) rfl rfl (b_ceq_f (pc := 15) rw_95_15 (A := v12.toInt) (B := 41) rfl rfl (by omega) (to_in (pc := 18) rw_95_18 rfl (to_c (pc := 19) rw_95_19 (x := (61 : Int32)) rfl rfl (b_cne (pc := 21) rw_95_21 (A := v12.toInt) (B := 61) rfl rfl (fun h75 => ?_) (fun h75 => ?_)))))))))
              · refine to_c (pc := 28) rw_95_28 (x := (0 : Int32)) rfl rfl (s_r1 (pc := 29) rw_95_29 (A := 0) rfl (by decide) (b_ieq_t (pc := 71) rw_79_71 (A := 0) rfl (by decide) (to_c (pc := 78) rw_79_78 (x := (1 : Int32)) rfl rfl (to_c (pc := 79) rw_79_79 (x := (0 : Int32)) rfl rfl (to_in (pc := 80) rw_79_80 rfl (s_v (pc := 81) rw_79_81 (dp0 hd (by decide)) (ls0 := [.ref 1, .int (1 : Int32), .int (0 : Int32), .int x2]) rfl (Nat.le_of_ble_eq_true rfl) (Nat.le_of_ble_eq_true rfl) rfl (to_rc rfl rfl rfl (g_o hG rfl)) rfl ?_))))))
                have k_76 : (1 : Int32).toInt = 1 := rfl
                have k_77 : (0 : Int32).toInt = 0 := rfl
                refine C_82 hX (dp1 hd (by decide)) hG (t := (1 : Int32)) (v := (0 : Int32)) (w := x2) (fun M82 hG79 F78 p_80 p_81 => ?_)
                have F83 := FR.c F0 F78 tg_206
                have b_84 := g_b hG79 (a := 1) (i := 5) (lo := 0) (hi := 501) rfl rfl
                refine to_in (pc := 84) rw_79_84 rfl (to_c (pc := 85) rw_79_85 (x := (1 : Int32)) rfl rfl (s_add (pc := 86) rw_79_86 (A := x2.toInt) (B := 1) rfl rfl (by omega) (fun v85 e86 => to_i (pc := 87) rw_79_87 rfl (s_max (pc := 89) rw_79_89 rfl (A := v85.toInt) (B := v14.toInt) rfl rfl (fun v87 _ _ _ => to_isn (pc := 92) rw_79_92 (ls2 := [.ref 1, .int n, .int v87, .int v12, .int v14]) rfl rfl (to_go (pc := 93) rw_79_93 ?_))))))
                exact ih M82 v87 (.int v12) (.int v14) hG79 F83 (by omega) (by omega) (by omega) (by omega) (by omega) (by omega)
              · refine to_c (pc := 24) rw_95_24 (x := (1 : Int32)) rfl rfl (to_go (pc := 25) rw_95_25 (s_r1 (pc := 29) rw_95_29 (A := 1) rfl (by decide) (b_ieq_f (pc := 71) rw_79_71 (A := 1) rfl (by decide) (to_in (pc := 74) rw_79_74 rfl (to_go (pc := 75) rw_79_75 (to_c (pc := 79) rw_79_79 (x := (0 : Int32)) rfl rfl (to_in (pc := 80) rw_79_80 rfl (s_v (pc := 81) rw_79_81 (dp0 hd (by decide)) (ls0 := [.ref 1, .int v12, .int (0 : Int32), .int x2]) rfl (Nat.le_of_ble_eq_true rfl) (Nat.le_of_ble_eq_true rfl) rfl (to_rc rfl rfl rfl (g_o hG rfl)) rfl ?_))))))))
                have k_88 : (0 : Int32).toInt = 0 := rfl
                refine C_82 hX (dp1 hd (by decide)) hG (t := v12) (v := (0 : Int32)) (w := x2) (fun M93 hG90 F89 p_91 p_92 => ?_)
                have F94 := FR.c F0 F89 tg_206
                have b_95 := g_b hG90 (a := 1) (i := 5) (lo := 0) (hi := 501) rfl rfl
                refine to_in (pc := 84) rw_79_84 rfl (to_c (pc := 85) rw_79_85 (x := (1 : Int32)) rfl rfl (s_add (pc := 86) rw_79_86 (A := x2.toInt) (B := 1) rfl rfl (by omega) (fun v96 e97 => to_i (pc := 87) rw_79_87 rfl (s_max (pc := 89) rw_79_89 rfl (A := v96.toInt) (B := v14.toInt) rfl rfl (fun v98 _ _ _ => to_isn (pc := 92) rw_79_92 (ls2 := [.ref 1, .int n, .int v98, .int v12, .int v14]) rfl rfl (to_go (pc := 93) rw_79_93 ?_))))))
                exact ih M93 v98 (.int v12) (.int v14) hG90 F94 (by omega) (by omega) (by omega) (by omega) (by omega) (by omega)
          · refine to_c (pc := 12) rw_94_12 (x := (1 : Int32)) rfl rfl (to_go (pc := 13) rw_94_13 (s_r1 (pc := 17) rw_94_17 (A := 1) rfl (by decide) (b_ieq_f (pc := 45) rw_79_45 (A := 1) rfl (by decide) (to_an (pc := 48) rw_79_48 rfl (to_in (pc := 49) rw_79_49 rfl (to_in (pc := 50) rw_79_50 rfl (s_v (pc := 51) rw_79_51 (dp0 hd (by decide)) (ls0 := [.ref 1, .int x2, .int n, .null, .null]) rfl (Nat.le_of_ble_eq_true rfl) (Nat.le_of_ble_eq_true rfl) rfl (to_rc rfl rfl rfl (g_o hG rfl)) rfl (C_81 hX (dp1 hd (by decide)) hG (by omega) (by omega) (by omega) (by omega) (f := x2) (n := n) (fun r99 M105 hG101 F100 p_102 p_103 p_104 => ?_)))))))))
            have F106 := FR.c F0 F100 tg_206
            refine to_is (pc := 54) rw_79_54 (ls2 := [.ref 1, .int n, .int x2, .int v12, .int r99]) rfl rfl (to_go (pc := 56) rw_79_56 (to_in (pc := 84) rw_79_84 rfl (to_c (pc := 85) rw_79_85 (x := (1 : Int32)) rfl rfl (s_add (pc := 86) rw_79_86 (A := x2.toInt) (B := 1) rfl rfl (by omega) (fun v107 e108 => to_i (pc := 87) rw_79_87 rfl (s_max (pc := 89) rw_79_89 rfl (A := v107.toInt) (B := r99.toInt) rfl rfl (fun v109 _ _ _ => to_isn (pc := 92) rw_79_92 (ls2 := [.ref 1, .int n, .int v109, .int v12, .int r99]) rfl rfl (to_go (pc := 93) rw_79_93 ?_))))))))
            exact ih M105 v109 (.int v12) (.int r99) hG101 F106 (by omega) (by omega) (by omega) (by omega) (by omega) (by omega)
      · refine to_in (pc := 6) rw_93_6 rfl (to_c (pc := 7) rw_93_7 (x := (122 : Int32)) rfl rfl (b_cgt (pc := 9) rw_93_9 (A := v12.toInt) (B := 122) rfl rfl (fun h110 => ?_) (fun h110 => ?_)))
        · refine to_c (pc := 16) rw_93_16 (x := (0 : Int32)) rfl rfl (s_r1 (pc := 17) rw_93_17 (A := 0) rfl (by decide) (b_ieq_t (pc := 27) rw_79_27 (A := 0) rfl (by decide) (to_in (pc := 41) rw_79_41 rfl (s_s (pc := 42) rw_79_42 (dp0 hd (by decide)) (ls0 := [.int v12]) rfl (Nat.le_of_ble_eq_true rfl) (Nat.le_of_ble_eq_true rfl) rfl (to_rcs rfl rfl) rfl (to_in (pc := 0) rw_94_0 rfl (to_c (pc := 1) rw_94_1 (x := (48 : Int32)) rfl rfl (b_clt_f (pc := 3) rw_94_3 (A := v12.toInt) (B := 48) rfl rfl (by omega) (to_in (pc := 6) rw_94_6 rfl (to_c (pc := 7) rw_94_7 (x := (57 : Int32)) rfl rfl (b_cgt_t (pc := 9) rw_94_9 (A := v12.toInt) (B := 57) rfl rfl (by omega) (to_c (pc := 16) rw_94_16 (x := (0 : Int32)) rfl rfl ?_)))))))))))
          refine s_r1 (pc := 17) rw_94_17 (A := 0) rfl (by decide) (b_ieq_t (pc := 45) rw_79_45 (A := 0) rfl (by decide) (to_in (pc := 59) rw_79_59 rfl (s_s (pc := 60) rw_79_60 (dp0 hd (by decide)) (ls0 := [.int v12]) rfl (Nat.le_of_ble_eq_true rfl) (Nat.le_of_ble_eq_true rfl) rfl (to_rcs rfl rfl) rfl (to_in (pc := 0) rw_92_0 rfl (to_c (pc := 1) rw_92_1 (x := (10 : Int32)) rfl rfl (b_ceq_f (pc := 3) rw_92_3 (A := v12.toInt) (B := 10) rfl rfl (by omega) (to_in (pc := 6) rw_92_6 rfl (to_c (pc := 7) rw_92_7 (x := (32 : Int32)) rfl rfl (b_cne_t (pc := 9) rw_92_9 (A := v12.toInt) (B := 32) rfl rfl (by omega) (to_c (pc := 16) rw_92_16 (x := (0 : Int32)) rfl rfl (s_r1 (pc := 17) rw_92_17 (A := 0) rfl (by decide) ?_)))))))))))
          refine b_ine_f (pc := 63) rw_79_63 (A := 0) rfl (by decide) (to_an (pc := 66) rw_79_66 rfl (to_in (pc := 67) rw_79_67 rfl (s_s (pc := 68) rw_79_68 (dp0 hd (by decide)) (ls0 := [.int v12]) rfl (Nat.le_of_ble_eq_true rfl) (Nat.le_of_ble_eq_true rfl) rfl (to_rcs rfl rfl) rfl (to_in (pc := 0) rw_95_0 rfl (to_c (pc := 1) rw_95_1 (x := (59 : Int32)) rfl rfl (b_ceq_f (pc := 3) rw_95_3 (A := v12.toInt) (B := 59) rfl rfl (by omega) (to_in (pc := 6) rw_95_6 rfl (to_c (pc := 7) rw_95_7 (x := (40 : Int32)) rfl rfl (b_ceq_f (pc := 9) rw_95_9 (A := v12.toInt) (B := 40) rfl rfl (by omega) (to_in (pc := 12) rw_95_12 rfl (to_c (pc := 13) rw_95_13 (x := (41 : Int32)) rfl rfl ?_)))))))))))
          refine b_ceq_f (pc := 15) rw_95_15 (A := v12.toInt) (B := 41) rfl rfl (by omega) (to_in (pc := 18) rw_95_18 rfl (to_c (pc := 19) rw_95_19 (x := (61 : Int32)) rfl rfl (b_cne_t (pc := 21) rw_95_21 (A := v12.toInt) (B := 61) rfl rfl (by omega) (to_c (pc := 28) rw_95_28 (x := (0 : Int32)) rfl rfl (s_r1 (pc := 29) rw_95_29 (A := 0) rfl (by decide) (b_ieq_t (pc := 71) rw_79_71 (A := 0) rfl (by decide) (to_c (pc := 78) rw_79_78 (x := (1 : Int32)) rfl rfl (to_c (pc := 79) rw_79_79 (x := (0 : Int32)) rfl rfl (to_in (pc := 80) rw_79_80 rfl (s_v (pc := 81) rw_79_81 (dp0 hd (by decide)) (ls0 := [.ref 1, .int (1 : Int32), .int (0 : Int32), .int x2]) rfl (Nat.le_of_ble_eq_true rfl) (Nat.le_of_ble_eq_true rfl) rfl (to_rc rfl rfl rfl (g_o hG rfl)) rfl ?_))))))))))
          have k_111 : (1 : Int32).toInt = 1 := rfl
          have k_112 : (0 : Int32).toInt = 0 := rfl
          refine C_82 hX (dp1 hd (by decide)) hG (t := (1 : Int32)) (v := (0 : Int32)) (w := x2) (fun M117 hG114 F113 p_115 p_116 => ?_)
          have F118 := FR.c F0 F113 tg_206
          have b_119 := g_b hG114 (a := 1) (i := 5) (lo := 0) (hi := 501) rfl rfl
          refine to_in (pc := 84) rw_79_84 rfl (to_c (pc := 85) rw_79_85 (x := (1 : Int32)) rfl rfl (s_add (pc := 86) rw_79_86 (A := x2.toInt) (B := 1) rfl rfl (by omega) (fun v120 e121 => to_i (pc := 87) rw_79_87 rfl (s_max (pc := 89) rw_79_89 rfl (A := v120.toInt) (B := v14.toInt) rfl rfl (fun v122 _ _ _ => to_isn (pc := 92) rw_79_92 (ls2 := [.ref 1, .int n, .int v122, .int v12, .int v14]) rfl rfl (to_go (pc := 93) rw_79_93 ?_))))))
          exact ih M117 v122 (.int v12) (.int v14) hG114 F118 (by omega) (by omega) (by omega) (by omega) (by omega) (by omega)
        · refine to_c (pc := 12) rw_93_12 (x := (1 : Int32)) rfl rfl (to_go (pc := 13) rw_93_13 (s_r1 (pc := 17) rw_93_17 (A := 1) rfl (by decide) (b_ieq_f (pc := 27) rw_79_27 (A := 1) rfl (by decide) (to_an (pc := 30) rw_79_30 rfl (to_in (pc := 31) rw_79_31 rfl (to_in (pc := 32) rw_79_32 rfl (s_v (pc := 33) rw_79_33 (dp0 hd (by decide)) (ls0 := [.ref 1, .int x2, .int n, .null, .null]) rfl (Nat.le_of_ble_eq_true rfl) (Nat.le_of_ble_eq_true rfl) rfl (to_rc rfl rfl rfl (g_o hG rfl)) rfl (C_80 hX (dp1 hd (by decide)) hG (by omega) (by omega) (by omega) (by omega) (f := x2) (n := n) (fun r123 M129 hG125 F124 p_126 p_127 p_128 => ?_)))))))))
          have F130 := FR.c F0 F124 tg_206
          refine to_is (pc := 36) rw_79_36 (ls2 := [.ref 1, .int n, .int x2, .int v12, .int r123]) rfl rfl (to_go (pc := 38) rw_79_38 (to_in (pc := 84) rw_79_84 rfl (to_c (pc := 85) rw_79_85 (x := (1 : Int32)) rfl rfl (s_add (pc := 86) rw_79_86 (A := x2.toInt) (B := 1) rfl rfl (by omega) (fun v131 e132 => to_i (pc := 87) rw_79_87 rfl (s_max (pc := 89) rw_79_89 rfl (A := v131.toInt) (B := r123.toInt) rfl rfl (fun v133 _ _ _ => to_isn (pc := 92) rw_79_92 (ls2 := [.ref 1, .int n, .int v133, .int v12, .int r123]) rfl rfl (to_go (pc := 93) rw_79_93 ?_))))))))
          exact ih M129 v133 (.int v12) (.int r123) hG125 F130 (by omega) (by omega) (by omega) (by omega) (by omega) (by omega)
set_option maxRecDepth 4000 in
set_option maxHeartbeats 0 in
theorem C_79 {X : mm_X} {d : Nat} {M : mm_M} {Q : Option Value → mm_M → Prop} {n : Int32} (hX : g_X X) (hd : 2 ≤ d) (hG : g_G M) (q1 : 0 ≤ n.toInt) (q2 : n.toInt ≤ 500) (h : ∀ (M1 : mm_M), g_G M1 → FR md_t M M1 → (1 ≤ (M1.2.1 1 5).toInt) → ((M1.2.1 1 10).toInt = (M.2.1 1 10).toInt ∧ (M1.2.1 1 11).toInt = (M.2.1 1 11).toInt) → Q (none) M1) : mm_T X d 79 0 [.ref 1, .int n, .null, .null, .null] [] M Q := by
  have F0 : FR md_t M M := FR.rf
  refine to_an (pc := 0) rw_79_0 rfl (to_c (pc := 1) rw_79_1 (x := (0 : Int32)) rfl rfl (s_pI (pc := 2) rw_79_2 hG rfl (fun M135 W134 => ?_)))
  have hG136 := g_w hG W134 (A := 0) rfl (lo := 0) (hi := 501) rfl rfl (by omega) (by decide)
  have F137 := FR.w F0 W134 (show 1 = 1 ∧ 5 ≤ 5 ∨ 3 ≤ 1 ∧ 1 ≤ 5 by decide)
  refine to_c (pc := 5) rw_79_5 (x := (0 : Int32)) rfl rfl (to_isn (pc := 6) rw_79_6 (ls2 := [.ref 1, .int n, .int (0 : Int32), .null, .null]) rfl rfl ?_)
  have k_138 : (0 : Int32).toInt = 0 := rfl
  have c_139 : M135.2.1 1 10 = (M.2.1 1 10) := (W_n W134 (by decide) rfl)
  have t_140 : (M135.2.1 1 10).toInt = (M.2.1 1 10).toInt := congrArg Int32.toInt c_139
  have c_141 : M135.2.1 1 11 = (M.2.1 1 11) := (W_n W134 (by decide) rfl)
  have t_142 : (M135.2.1 1 11).toInt = (M.2.1 1 11).toInt := congrArg Int32.toInt c_141
  exact (T_79_0 (n := n) hX hd q1 q2 h ((500 - (0 : Int32).toInt).toNat + 1)) M135 (0 : Int32) (.null) (.null) hG136 F137 (by omega) (by omega) (by omega) (by omega) (by omega) (by omega)
set_option maxRecDepth 4000 in
set_option maxHeartbeats 0 in
theorem C_78 {X : mm_X} {d : Nat} {M : mm_M} {Q : Option Value → mm_M → Prop} {n : Int32} (hX : g_X X) (hd : 3 ≤ d) (hG : g_G M) (h : ∀ (r : Int32) (M1 : mm_M), g_G M1 → FR md_bg M M1 → (0 ≤ r.toInt) → (r.toInt ≤ 1) → (n.toInt < 0 ∨ (M.2.1 1 1).toInt < n.toInt → (M1.2.1 1 1).toInt = (M.2.1 1 1).toInt ∧ r.toInt = 0) → (0 ≤ n.toInt ∧ n.toInt ≤ (M.2.1 1 1).toInt → (M1.2.1 1 1).toInt = 0 ∧ r.toInt = 1) → (r.toInt = 1 → (M1.2.1 1 10).toInt = 0 ∧ (M1.2.1 1 11).toInt = -1) → (r.toInt = 0 → (M1.2.1 1 10).toInt = (M.2.1 1 10).toInt ∧ (M1.2.1 1 11).toInt = (M.2.1 1 11).toInt) → Q (some (.int r)) M1) : mm_T X d 78 0 [.ref 1, .int n] [] M Q := by
  have F0 : FR md_bg M M := FR.rf
  refine to_in (pc := 0) rw_78_0 rfl (b_ilt (pc := 1) rw_78_1 (A := n.toInt) rfl (fun h1 => ?_) (fun h1 => ?_))
  · refine to_c (pc := 12) rw_78_12 (x := (0 : Int32)) rfl rfl (s_r1 (pc := 13) rw_78_13 (A := 0) rfl (by decide) ?_)
    have k_2 : (0 : Int32).toInt = 0 := rfl
    have b_3 := g_b hG (a := 1) (i := 1) (lo := 0) (hi := 500) rfl rfl
    exact h (0 : Int32) M hG F0 (by decide) (by decide) (by omega) (by omega) (by omega) (by omega)
  · refine to_in (pc := 4) rw_78_4 rfl (to_an (pc := 5) rw_78_5 rfl ?_)
    have b_4 := g_b hG (a := 1) (i := 1) (lo := 0) (hi := 500) rfl rfl
    refine tt_gI (pc := 6) rw_78_6 (g_o hG rfl) (v := (M.2.1 1 1)) rfl (b_cle (pc := 9) rw_78_9 (A := n.toInt) (B := (M.2.1 1 1).toInt) rfl rfl (fun h5 => ?_) (fun h5 => ?_))
    · refine to_an (pc := 14) rw_78_14 rfl (to_c (pc := 15) rw_78_15 (x := (0 : Int32)) rfl rfl (s_pI (pc := 16) rw_78_16 hG rfl (fun M7 W6 => ?_)))
      have hG8 := g_w hG W6 (A := 0) rfl (lo := 0) (hi := 500) rfl rfl (by omega) (by decide)
      have F9 := FR.w F0 W6 (show 1 = 1 ∨ 3 ≤ 1 ∧ 1 ≤ 5 by decide)
      refine to_an (pc := 19) rw_78_19 rfl (to_c (pc := 20) rw_78_20 (x := (0 : Int32)) rfl rfl (s_pI (pc := 21) rw_78_21 hG8 rfl (fun M11 W10 => ?_)))
      have hG12 := g_wf hG8 W10 rfl rfl (by decide)
      have F13 := FR.w F9 W10 (show 1 = 1 ∨ 3 ≤ 1 ∧ 1 ≤ 5 by decide)
      refine to_an (pc := 24) rw_78_24 rfl (to_c (pc := 25) rw_78_25 (x := (-1 : Int32)) rfl rfl (s_pI (pc := 26) rw_78_26 hG12 rfl (fun M15 W14 => ?_)))
      have hG16 := g_wf hG12 W14 rfl rfl (by decide)
      have F17 := FR.w F13 W14 (show 1 = 1 ∨ 3 ≤ 1 ∧ 1 ≤ 5 by decide)
      refine to_an (pc := 29) rw_78_29 rfl (to_in (pc := 30) rw_78_30 rfl (s_v (pc := 31) rw_78_31 (dp0 hd (by decide)) (ls0 := [.ref 1, .int n, .null, .null, .null]) rfl (Nat.le_of_ble_eq_true rfl) (Nat.le_of_ble_eq_true rfl) rfl (to_rc rfl rfl rfl (g_o hG16 rfl)) rfl ?_))
      have c_18 : M15.2.1 1 10 = (0 : Int32) := (W_n W14 (by decide) (W_e W10))
      have k_19 : (0 : Int32).toInt = 0 := rfl
      have t_20 : (M15.2.1 1 10).toInt = (0 : Int32).toInt := congrArg Int32.toInt c_18
      have c_21 : M15.2.1 1 11 = (-1 : Int32) := (W_e W14)
      have k_22 : (-1 : Int32).toInt = -1 := rfl
      have t_23 : (M15.2.1 1 11).toInt = (-1 : Int32).toInt := congrArg Int32.toInt c_21
      refine C_79 hX (dp1 hd (by decide)) hG16 (by omega) (by omega) (n := n) (fun M28 hG25 F24 p_26 p_27 => ?_)
      have F29 := FR.c F17 F24 tg_207
      have b_30 := g_b hG25 (a := 1) (i := 5) (lo := 0) (hi := 501) rfl rfl
      refine to_an (pc := 34) rw_78_34 rfl (to_c (pc := 35) rw_78_35 (x := (-1 : Int32)) rfl rfl (s_pI (pc := 36) rw_78_36 hG25 rfl (fun M32 W31 => ?_)))
      have F34 := FR.w F29 W31 (show 1 = 1 ∨ 3 ≤ 1 ∧ 1 ≤ 5 by decide)
      refine to_an (pc := 39) rw_78_39 rfl (s_v (pc := 40) rw_78_40 (dp0 hd (by decide)) (ls0 := [.ref 1]) rfl (Nat.le_of_ble_eq_true rfl) (Nat.le_of_ble_eq_true rfl) rfl (to_rc rfl rfl rfl (g_oW hG25 W31 rfl)) rfl (to_an (pc := 0) rw_83_0 rfl ?_))
      have c_35 : M32.2.1 1 6 = (-1 : Int32) := (W_e W31)
      refine tt_gI (pc := 1) rw_83_1 (g_oW hG25 W31 rfl) (v := (-1 : Int32)) c_35 (to_c (pc := 4) rw_83_4 (x := (1 : Int32)) rfl rfl (s_add (pc := 5) rw_83_5 (A := -1) (B := 1) rfl rfl (by omega) (fun v36 e37 => to_an (pc := 6) rw_83_6 rfl ?_)))
      have c_38 : M32.2.1 1 5 = (M28.2.1 1 5) := (W_n W31 (by decide) rfl)
      refine tt_gI (pc := 7) rw_83_7 (g_oW hG25 W31 rfl) (v := (M28.2.1 1 5)) c_38 (b_cge_f (pc := 10) rw_83_10 (A := v36.toInt) (B := (M28.2.1 1 5).toInt) rfl rfl (by omega) (to_an (pc := 13) rw_83_13 rfl (to_dupr (pc := 14) rw_83_14 (tt_gI (pc := 15) rw_83_15 (g_oW hG25 W31 rfl) (v := (-1 : Int32)) c_35 (to_c (pc := 18) rw_83_18 (x := (1 : Int32)) rfl rfl (s_add (pc := 19) rw_83_19 (A := -1) (B := 1) rfl rfl (by omega) (fun v39 e40 => s_pI0 (pc := 20) rw_83_20 (g_oW hG25 W31 rfl) (fun M42 W41 => ?_))))))))
      have hG43 := g_w hG25 (W_ww W41 W31) (A := v39.toInt) rfl (lo := 0) (hi := 500) rfl rfl (by omega) (by decide)
      have F44 := FR.w F34 W41 (show 1 = 1 ∨ 3 ≤ 1 ∧ 1 ≤ 5 by decide)
      refine to_an (pc := 23) rw_83_23 rfl (to_an (pc := 24) rw_83_24 rfl (s_gR (pc := 25) rw_83_25 hG43 rfl (v := 3) rfl (to_an (pc := 28) rw_83_28 rfl ?_)))
      have c_45 : M42.2.1 1 6 = v39 := (W_e W41)
      refine tt_gI (pc := 29) rw_83_29 (g_o hG43 rfl) (v := v39) c_45 (s_ial (pc := 32) rw_83_32 hG43 rfl (n := 501) rfl rfl (A := v39.toInt) rfl (by omega) (by omega) (lo := -2147483648) (hi := 2147483647) rfl rfl (fun v46 w_47 _ _ => s_pI (pc := 33) rw_83_33 hG43 rfl (fun M49 W48 => ?_)))
      have hG50 := g_wf hG43 W48 rfl rfl (by decide)
      have F51 := FR.w F44 W48 (show 1 = 1 ∨ 3 ≤ 1 ∧ 1 ≤ 5 by decide)
      refine to_an (pc := 36) rw_83_36 rfl (to_an (pc := 37) rw_83_37 rfl (s_gR (pc := 38) rw_83_38 hG50 rfl (v := 4) rfl (to_an (pc := 41) rw_83_41 rfl ?_)))
      have c_52 : M49.2.1 1 6 = v39 := (W_n W48 (by decide) c_45)
      refine tt_gI (pc := 42) rw_83_42 (g_o hG50 rfl) (v := v39) c_52 (s_ial (pc := 45) rw_83_45 hG50 rfl (n := 501) rfl rfl (A := v39.toInt) rfl (by omega) (by omega) (lo := -2147483648) (hi := 2147483647) rfl rfl (fun v53 w_54 _ _ => s_pI (pc := 46) rw_83_46 hG50 rfl (fun M56 W55 => ?_)))
      have hG57 := g_wf hG50 W55 rfl rfl (by decide)
      have F58 := FR.w F51 W55 (show 1 = 1 ∨ 3 ≤ 1 ∧ 1 ≤ 5 by decide)
      refine to_an (pc := 49) rw_83_49 rfl (to_an (pc := 50) rw_83_50 rfl (s_gR (pc := 51) rw_83_51 hG57 rfl (v := 5) rfl (to_an (pc := 54) rw_83_54 rfl ?_)))
      have c_59 : M56.2.1 1 6 = v39 := (W_n W55 (by decide) c_52)
      refine tt_gI (pc := 55) rw_83_55 (g_o hG57 rfl) (v := v39) c_59 (s_ial (pc := 58) rw_83_58 hG57 rfl (n := 501) rfl rfl (A := v39.toInt) rfl (by omega) (by omega) (lo := -2147483648) (hi := 2147483647) rfl rfl (fun v60 w_61 _ _ => s_pI (pc := 59) rw_83_59 hG57 rfl (fun M63 W62 => ?_)))
      have hG64 := g_wf hG57 W62 rfl rfl (by decide)
      have F65 := FR.w F58 W62 (show 1 = 1 ∨ 3 ≤ 1 ∧ 1 ≤ 5 by decide)
      refine to_rv (pc := 62) rw_83_62 (to_c (pc := 43) rw_78_43 (x := (1 : Int32)) rfl rfl (s_r1 (pc := 44) rw_78_44 (A := 1) rfl (by decide) ?_))
      have k_66 : (1 : Int32).toInt = 1 := rfl
      have c_67 : M63.2.1 1 1 = (0 : Int32) := (W_n W62 (by decide) (W_n W55 (by decide) (W_n W48 (by decide) (W_n W41 (by decide) (W_n W31 (by decide) (F_n F24 (show ¬ (1 = 1 ∧ 5 ≤ 1 ∨ 3 ≤ 1 ∧ 1 ≤ 5) by decide) (W_n W14 (by decide) (W_n W10 (by decide) (W_e W6)))))))))
      have t_68 : (M63.2.1 1 1).toInt = (0 : Int32).toInt := congrArg Int32.toInt c_67
      have c_69 : M63.2.1 1 10 = (M28.2.1 1 10) := (W_n W62 (by decide) (W_n W55 (by decide) (W_n W48 (by decide) (W_n W41 (by decide) (W_n W31 (by decide) rfl)))))
      have t_70 : (M63.2.1 1 10).toInt = (M28.2.1 1 10).toInt := congrArg Int32.toInt c_69
      have c_71 : M63.2.1 1 11 = (M28.2.1 1 11) := (W_n W62 (by decide) (W_n W55 (by decide) (W_n W48 (by decide) (W_n W41 (by decide) (W_n W31 (by decide) rfl)))))
      have t_72 : (M63.2.1 1 11).toInt = (M28.2.1 1 11).toInt := congrArg Int32.toInt c_71
      exact h (1 : Int32) M63 hG64 F65 (by decide) (by decide) (by omega) (by omega) (by omega) (by omega)
    · refine to_c (pc := 12) rw_78_12 (x := (0 : Int32)) rfl rfl (s_r1 (pc := 13) rw_78_13 (A := 0) rfl (by decide) ?_)
      have k_73 : (0 : Int32).toInt = 0 := rfl
      exact h (0 : Int32) M hG F0 (by decide) (by decide) (by omega) (by omega) (by omega) (by omega)
set_option maxRecDepth 4000 in
set_option maxHeartbeats 0 in
theorem C_89 {X : mm_X} {d : Nat} {M : mm_M} {Q : Option Value → mm_M → Prop} {x : Int32} (hX : g_X X) (hd : 1 ≤ d) (hG : g_G M) (h : ∀ (r : Int32) (M1 : mm_M), g_G M1 → FR md_t M M1 → (0 ≤ r.toInt) → (r.toInt ≤ 1) → (r.toInt = 1 → (M1.2.1 1 10).toInt = (M.2.1 1 10).toInt ∧ (M1.2.1 1 11).toInt = (M.2.1 1 11).toInt) → Q (some (.int r)) M1) : mm_T X d 89 0 [.ref 1, .int x] [] M Q := by
  have F0 : FR md_t M M := FR.rf
  refine to_an (pc := 0) rw_89_0 rfl (to_in (pc := 1) rw_89_1 rfl (s_v (pc := 2) rw_89_2 (dp0 hd (by decide)) (ls0 := [.ref 1, .int x]) rfl (Nat.le_of_ble_eq_true rfl) (Nat.le_of_ble_eq_true rfl) rfl (to_rc rfl rfl rfl (g_o hG rfl)) rfl (to_an (pc := 0) rw_86_0 rfl (tt_gI (pc := 1) rw_86_1 (g_o hG rfl) (v := (M.2.1 1 7)) rfl (to_c (pc := 4) rw_86_4 (x := (4 : Int32)) rfl rfl (b_cne (pc := 5) rw_86_5 (A := (M.2.1 1 7).toInt) (B := 4) rfl rfl (fun h1 => ?_) (fun h1 => ?_)))))))
  · refine to_c (pc := 20) rw_86_20 (x := (0 : Int32)) rfl rfl (s_r1 (pc := 21) rw_86_21 (A := 0) rfl (by decide) (b_ine_f (pc := 5) rw_89_5 (A := 0) rfl (by decide) (to_an (pc := 8) rw_89_8 rfl (to_c (pc := 9) rw_89_9 (x := (1 : Int32)) rfl rfl (s_v (pc := 10) rw_89_10 (dp0 hd (by decide)) (ls0 := [.ref 1, .int (1 : Int32)]) rfl (Nat.le_of_ble_eq_true rfl) (Nat.le_of_ble_eq_true rfl) rfl (to_rc rfl rfl rfl (g_o hG rfl)) rfl (to_an (pc := 0) rw_84_0 rfl (to_in (pc := 1) rw_84_1 rfl (s_pI (pc := 2) rw_84_2 hG rfl (fun M3 W2 => ?_)))))))))
    have hG4 := g_wf hG W2 rfl rfl (by decide)
    have F5 := FR.w F0 W2 (show 1 = 1 ∧ 5 ≤ 10 ∨ 3 ≤ 1 ∧ 1 ≤ 5 by decide)
    refine to_an (pc := 5) rw_84_5 rfl (to_an (pc := 6) rw_84_6 rfl ?_)
    have c_6 : M3.2.1 1 9 = (M.2.1 1 9) := (W_n W2 (by decide) rfl)
    refine tt_gI (pc := 7) rw_84_7 (g_o hG4 rfl) (v := (M.2.1 1 9)) c_6 (s_pI (pc := 10) rw_84_10 hG4 rfl (fun M8 W7 => ?_))
    have hG9 := g_wf hG4 W7 rfl rfl (by decide)
    have F10 := FR.w F5 W7 (show 1 = 1 ∧ 5 ≤ 11 ∨ 3 ≤ 1 ∧ 1 ≤ 5 by decide)
    refine to_c (pc := 13) rw_84_13 (x := (0 : Int32)) rfl rfl (s_r1 (pc := 14) rw_84_14 (A := 0) rfl (by decide) (s_r1 (pc := 13) rw_89_13 (A := 0) rfl (by decide) ?_))
    have k_11 : (0 : Int32).toInt = 0 := rfl
    have c_12 : M8.2.1 1 10 = (1 : Int32) := (W_n W7 (by decide) (W_e W2))
    have k_13 : (1 : Int32).toInt = 1 := rfl
    have t_14 : (M8.2.1 1 10).toInt = (1 : Int32).toInt := congrArg Int32.toInt c_12
    have c_15 : M8.2.1 1 11 = (M.2.1 1 9) := (W_e W7)
    have t_16 : (M8.2.1 1 11).toInt = (M.2.1 1 9).toInt := congrArg Int32.toInt c_15
    exact h (0 : Int32) M8 hG9 F10 (by decide) (by decide) (by omega)
  · refine to_an (pc := 8) rw_86_8 rfl (tt_gI (pc := 9) rw_86_9 (g_o hG rfl) (v := (M.2.1 1 8)) rfl (to_in (pc := 12) rw_86_12 rfl (b_cne (pc := 13) rw_86_13 (A := (M.2.1 1 8).toInt) (B := x.toInt) rfl rfl (fun h17 => ?_) (fun h17 => ?_))))
    · refine to_c (pc := 20) rw_86_20 (x := (0 : Int32)) rfl rfl (s_r1 (pc := 21) rw_86_21 (A := 0) rfl (by decide) (b_ine_f (pc := 5) rw_89_5 (A := 0) rfl (by decide) (to_an (pc := 8) rw_89_8 rfl (to_c (pc := 9) rw_89_9 (x := (1 : Int32)) rfl rfl (s_v (pc := 10) rw_89_10 (dp0 hd (by decide)) (ls0 := [.ref 1, .int (1 : Int32)]) rfl (Nat.le_of_ble_eq_true rfl) (Nat.le_of_ble_eq_true rfl) rfl (to_rc rfl rfl rfl (g_o hG rfl)) rfl (to_an (pc := 0) rw_84_0 rfl (to_in (pc := 1) rw_84_1 rfl (s_pI (pc := 2) rw_84_2 hG rfl (fun M19 W18 => ?_)))))))))
      have hG20 := g_wf hG W18 rfl rfl (by decide)
      have F21 := FR.w F0 W18 (show 1 = 1 ∧ 5 ≤ 10 ∨ 3 ≤ 1 ∧ 1 ≤ 5 by decide)
      refine to_an (pc := 5) rw_84_5 rfl (to_an (pc := 6) rw_84_6 rfl ?_)
      have c_22 : M19.2.1 1 9 = (M.2.1 1 9) := (W_n W18 (by decide) rfl)
      refine tt_gI (pc := 7) rw_84_7 (g_o hG20 rfl) (v := (M.2.1 1 9)) c_22 (s_pI (pc := 10) rw_84_10 hG20 rfl (fun M24 W23 => ?_))
      have hG25 := g_wf hG20 W23 rfl rfl (by decide)
      have F26 := FR.w F21 W23 (show 1 = 1 ∧ 5 ≤ 11 ∨ 3 ≤ 1 ∧ 1 ≤ 5 by decide)
      refine to_c (pc := 13) rw_84_13 (x := (0 : Int32)) rfl rfl (s_r1 (pc := 14) rw_84_14 (A := 0) rfl (by decide) (s_r1 (pc := 13) rw_89_13 (A := 0) rfl (by decide) ?_))
      have k_27 : (0 : Int32).toInt = 0 := rfl
      have c_28 : M24.2.1 1 10 = (1 : Int32) := (W_n W23 (by decide) (W_e W18))
      have k_29 : (1 : Int32).toInt = 1 := rfl
      have t_30 : (M24.2.1 1 10).toInt = (1 : Int32).toInt := congrArg Int32.toInt c_28
      have c_31 : M24.2.1 1 11 = (M.2.1 1 9) := (W_e W23)
      have t_32 : (M24.2.1 1 11).toInt = (M.2.1 1 9).toInt := congrArg Int32.toInt c_31
      exact h (0 : Int32) M24 hG25 F26 (by decide) (by decide) (by omega)
    · refine to_c (pc := 16) rw_86_16 (x := (1 : Int32)) rfl rfl (to_go (pc := 17) rw_86_17 (s_r1 (pc := 21) rw_86_21 (A := 1) rfl (by decide) (b_ine_t (pc := 5) rw_89_5 (A := 1) rfl (by decide) (to_an (pc := 14) rw_89_14 rfl (s_v (pc := 15) rw_89_15 (dp0 hd (by decide)) (ls0 := [.ref 1]) rfl (Nat.le_of_ble_eq_true rfl) (Nat.le_of_ble_eq_true rfl) rfl (to_rc rfl rfl rfl (g_o hG rfl)) rfl (C_83 hX (dp1 hd (by decide)) hG  (fun M36 hG34 F33 p_35 => ?_)))))))
      have F37 := FR.c F0 F33 tg_206
      refine to_c (pc := 18) rw_89_18 (x := (1 : Int32)) rfl rfl (s_r1 (pc := 19) rw_89_19 (A := 1) rfl (by decide) ?_)
      have k_38 : (1 : Int32).toInt = 1 := rfl
      exact h (1 : Int32) M36 hG34 F37 (by decide) (by decide) (by omega)
set_option maxRecDepth 4000 in
set_option maxHeartbeats 0 in
theorem C_90 {X : mm_X} {d : Nat} {M : mm_M} {Q : Option Value → mm_M → Prop} {x : Int32} (hX : g_X X) (hd : 1 ≤ d) (hG : g_G M) (h : ∀ (r : Int32) (M1 : mm_M), g_G M1 → FR md_t M M1 → (0 ≤ r.toInt) → (r.toInt ≤ 1) → (r.toInt = 1 → (M.2.1 1 7).toInt = x.toInt) → (r.toInt = 1 → (M1.2.1 1 10).toInt = (M.2.1 1 10).toInt ∧ (M1.2.1 1 11).toInt = (M.2.1 1 11).toInt) → Q (some (.int r)) M1) : mm_T X d 90 0 [.ref 1, .int x] [] M Q := by
  have F0 : FR md_t M M := FR.rf
  refine to_an (pc := 0) rw_90_0 rfl (tt_gI (pc := 1) rw_90_1 (g_o hG rfl) (v := (M.2.1 1 7)) rfl (to_in (pc := 4) rw_90_4 rfl (b_ceq (pc := 5) rw_90_5 (A := (M.2.1 1 7).toInt) (B := x.toInt) rfl rfl (fun h1 => ?_) (fun h1 => ?_))))
  · refine to_an (pc := 14) rw_90_14 rfl (s_v (pc := 15) rw_90_15 (dp0 hd (by decide)) (ls0 := [.ref 1]) rfl (Nat.le_of_ble_eq_true rfl) (Nat.le_of_ble_eq_true rfl) rfl (to_rc rfl rfl rfl (g_o hG rfl)) rfl (C_83 hX (dp1 hd (by decide)) hG  (fun M5 hG3 F2 p_4 => ?_)))
    have F6 := FR.c F0 F2 tg_206
    refine to_c (pc := 18) rw_90_18 (x := (1 : Int32)) rfl rfl (s_r1 (pc := 19) rw_90_19 (A := 1) rfl (by decide) ?_)
    have k_7 : (1 : Int32).toInt = 1 := rfl
    exact h (1 : Int32) M5 hG3 F6 (by decide) (by decide) (by omega) (by omega)
  · refine to_an (pc := 8) rw_90_8 rfl (to_c (pc := 9) rw_90_9 (x := (1 : Int32)) rfl rfl (s_v (pc := 10) rw_90_10 (dp0 hd (by decide)) (ls0 := [.ref 1, .int (1 : Int32)]) rfl (Nat.le_of_ble_eq_true rfl) (Nat.le_of_ble_eq_true rfl) rfl (to_rc rfl rfl rfl (g_o hG rfl)) rfl (to_an (pc := 0) rw_84_0 rfl (to_in (pc := 1) rw_84_1 rfl (s_pI (pc := 2) rw_84_2 hG rfl (fun M9 W8 => ?_))))))
    have hG10 := g_wf hG W8 rfl rfl (by decide)
    have F11 := FR.w F0 W8 (show 1 = 1 ∧ 5 ≤ 10 ∨ 3 ≤ 1 ∧ 1 ≤ 5 by decide)
    refine to_an (pc := 5) rw_84_5 rfl (to_an (pc := 6) rw_84_6 rfl ?_)
    have c_12 : M9.2.1 1 9 = (M.2.1 1 9) := (W_n W8 (by decide) rfl)
    refine tt_gI (pc := 7) rw_84_7 (g_o hG10 rfl) (v := (M.2.1 1 9)) c_12 (s_pI (pc := 10) rw_84_10 hG10 rfl (fun M14 W13 => ?_))
    have hG15 := g_wf hG10 W13 rfl rfl (by decide)
    have F16 := FR.w F11 W13 (show 1 = 1 ∧ 5 ≤ 11 ∨ 3 ≤ 1 ∧ 1 ≤ 5 by decide)
    refine to_c (pc := 13) rw_84_13 (x := (0 : Int32)) rfl rfl (s_r1 (pc := 14) rw_84_14 (A := 0) rfl (by decide) (s_r1 (pc := 13) rw_90_13 (A := 0) rfl (by decide) ?_))
    have k_17 : (0 : Int32).toInt = 0 := rfl
    have c_18 : M14.2.1 1 10 = (1 : Int32) := (W_n W13 (by decide) (W_e W8))
    have k_19 : (1 : Int32).toInt = 1 := rfl
    have t_20 : (M14.2.1 1 10).toInt = (1 : Int32).toInt := congrArg Int32.toInt c_18
    have c_21 : M14.2.1 1 11 = (M.2.1 1 9) := (W_e W13)
    have t_22 : (M14.2.1 1 11).toInt = (M.2.1 1 9).toInt := congrArg Int32.toInt c_21
    exact h (0 : Int32) M14 hG15 F16 (by decide) (by decide) (by omega) (by omega)
