theorem tg_109 : ∀ a i : Nat, (a < 0) → (a = 1 ∧ 5 ≤ i ∨ 3 ≤ a ∧ a ≤ 5) := fun a i z => by omega
theorem tg_110 : ∀ a i : Nat, (a = 1 ∧ 5 ≤ i ∨ 3 ≤ a ∧ a ≤ 5) → (a = 1 ∧ 5 ≤ i ∨ 3 ≤ a ∧ a ≤ 5) := fun a i z => by omega
theorem tg_111 : ∀ a i : Nat, (a = 1 ∧ 5 ≤ i ∨ 3 ≤ a ∧ a ≤ 5) → (a = 1 ∨ 3 ≤ a ∧ a ≤ 5) := fun a i z => by omega
set_option maxRecDepth 4000 in
set_option maxHeartbeats 0 in
theorem T_77_0 {X : mm_X} {d : Nat} {M : mm_M} {Q : Option Value → mm_M → Prop} {x : Int32} (hX : g_X X) (hd : 0 ≤ d) (q1 : (M.2.1 1 1).toInt ≤ 496) (h : ∀ (M1 : mm_M), g_G M1 → FR md_a M M1 → ((M1.2.1 1 1).toInt = (M.2.1 1 1).toInt + 4) → Q (none) M1) : ∀ nn9 : Nat, (∀ (N : mm_M) (x2 : Int32), g_G N → FR md_a M N → (-8 ≤ x2.toInt) → (x2.toInt ≤ 24) → (8 * ((N.2.1 1 1).toInt - (M.2.1 1 1).toInt) + x2.toInt = 24) → x2.toInt + 8 < (nn9 : Int) → mm_T X d 77 3 [.ref 1, .int x, .int x2] [] N Q) := by
  intro nn9
  induction nn9 with
  | zero =>
    intro N x2 hG F0 g1 g2 g3 hm
    have b_1 := g_b hG (a := 1) (i := 1) (lo := 0) (hi := 500) rfl rfl
    exfalso; omega
  | succ nn9 ih =>
    intro N x2 hG F0 g1 g2 g3 hm
    have b_2 := g_b hG (a := 1) (i := 1) (lo := 0) (hi := 500) rfl rfl
    refine to_in (pc := 3) rw_77_3 rfl (b_ilt (pc := 4) rw_77_4 (A := x2.toInt) rfl (fun h3 => ?_) (fun h3 => ?_))
    · refine to_rv (pc := 48) rw_77_48 ?_
      exact h N hG F0 (by omega)
    · refine to_an (pc := 7) rw_77_7 rfl (tt_gI (pc := 8) rw_77_8 (g_o hG rfl) (v := (N.2.1 1 1)) rfl (to_an (pc := 11) rw_77_11 rfl (s_gR (pc := 12) rw_77_12 hG rfl (v := 2) rfl (s_len (pc := 15) rw_77_15 hG rfl rfl (n := 500) rfl (v := (500 : Int32)) rfl (b_cge (pc := 16) rw_77_16 (A := (N.2.1 1 1).toInt) (B := 500) rfl rfl (fun h4 => ?_) (fun h4 => ?_))))))
      · refine to_rv (pc := 48) rw_77_48 ?_
        exact h N hG F0 (by omega)
      · refine to_an (pc := 19) rw_77_19 rfl (s_gR (pc := 20) rw_77_20 hG rfl (v := 2) rfl (to_an (pc := 23) rw_77_23 rfl (tt_gI (pc := 24) rw_77_24 (g_o hG rfl) (v := (N.2.1 1 1)) rfl (to_in (pc := 27) rw_77_27 rfl (to_in (pc := 28) rw_77_28 rfl (s_any (pc := 29) rw_77_29 (fun _ _ => rfl) (fun v5 => s_i2b (pc := 30) rw_77_30 (fun v6 => s_bas (pc := 31) rw_77_31 hG rfl (n := 500) rfl (A := (N.2.1 1 1).toInt) rfl (by omega) (by omega) (fun M9 v8 W7 => ?_)))))))))
        have hG10 := g_wf hG W7 rfl rfl (by decide)
        have F11 := FR.w F0 W7 (show 2 = 1 ∧ ((N.2.1 1 1).toInt).toNat = 1 ∨ 2 = 2 by omega)
        refine to_an (pc := 32) rw_77_32 rfl (to_dupr (pc := 33) rw_77_33 ?_)
        have c_12 : M9.2.1 1 1 = (N.2.1 1 1) := (W_n W7 (fun z => absurd z.1 (by decide)) rfl)
        refine tt_gI (pc := 34) rw_77_34 (g_o hG10 rfl) (v := (N.2.1 1 1)) c_12 (to_c (pc := 37) rw_77_37 (x := (1 : Int32)) rfl rfl (s_add (pc := 38) rw_77_38 (A := (N.2.1 1 1).toInt) (B := 1) rfl rfl (by omega) (fun v13 e14 => s_pI (pc := 39) rw_77_39 hG10 rfl (fun M16 W15 => ?_))))
        have hG17 := g_w hG10 W15 (A := v13.toInt) rfl (lo := 0) (hi := 500) rfl rfl (by omega) (by decide)
        have F18 := FR.w F11 W15 (show 1 = 1 ∧ 1 = 1 ∨ 1 = 2 by decide)
        refine s_inc (pc := 42) rw_77_42 (ls2 := fun v => [.ref 1, .int x, .int v]) rfl rfl (fun _ => rfl) (A := x2.toInt) (B := -8) rfl rfl (by omega) (fun v19 e20 => to_go (pc := 45) rw_77_45 ?_)
        have c_21 : M16.2.1 1 1 = v13 := (W_e W15)
        have t_22 : (M16.2.1 1 1).toInt = v13.toInt := congrArg Int32.toInt c_21
        exact ih M16 v19 hG17 F18 (by omega) (by omega) (by omega) (by omega)
set_option maxRecDepth 4000 in
set_option maxHeartbeats 0 in
theorem C_77 {X : mm_X} {d : Nat} {M : mm_M} {Q : Option Value → mm_M → Prop} {x : Int32} (hX : g_X X) (hd : 0 ≤ d) (hG : g_G M) (q1 : (M.2.1 1 1).toInt ≤ 496) (h : ∀ (M1 : mm_M), g_G M1 → FR md_a M M1 → ((M1.2.1 1 1).toInt = (M.2.1 1 1).toInt + 4) → Q (none) M1) : mm_T X d 77 0 [.ref 1, .int x, .null] [] M Q := by
  have F0 : FR md_a M M := FR.rf
  have b_23 := g_b hG (a := 1) (i := 1) (lo := 0) (hi := 500) rfl rfl
  refine to_c (pc := 0) rw_77_0 (x := (24 : Int32)) rfl rfl (to_isn (pc := 2) rw_77_2 (ls2 := [.ref 1, .int x, .int (24 : Int32)]) rfl rfl ?_)
  have k_24 : (24 : Int32).toInt = 24 := rfl
  exact (T_77_0 (x := x) hX hd q1 h (((24 : Int32).toInt + 8).toNat + 1)) M (24 : Int32) hG F0 (by omega) (by omega) (by omega) (by omega)
set_option maxRecDepth 4000 in
set_option maxHeartbeats 0 in
theorem T_96_0 {X : mm_X} {d : Nat} {M : mm_M} {Q : Option Value → mm_M → Prop} {x : Int32} (hX : g_X X) (hd : 0 ≤ d) (h : ∀ (r : Int32) (M1 : mm_M), g_G M1 → FR md_0 M M1 → (0 ≤ r.toInt) → (r.toInt ≤ 1) → Q (some (.int r)) M1) : ∀ nn9 : Nat, (∀ (N : mm_M) (x2 : Int32) (x3 : Int32) (u4 : Value), g_G N → FR md_0 M N → (0 ≤ x3.toInt) → (x3.toInt ≤ 15) → (x2.toInt = 15) → 15 - x3.toInt < (nn9 : Int) → mm_T X d 96 9 [.int x, .ref (mm_ext + 1), .int x2, .int x3, u4] [] N Q) := by
  intro nn9
  induction nn9 with
  | zero =>
    intro N x2 x3 u4 hG F0 g1 g2 g3 hm
    exfalso; omega
  | succ nn9 ih =>
    intro N x2 x3 u4 hG F0 g1 g2 g3 hm
    refine to_in (pc := 9) rw_96_9 rfl (to_in (pc := 10) rw_96_10 rfl (b_cge (pc := 11) rw_96_11 (A := x3.toInt) (B := x2.toInt) rfl rfl (fun h1 => ?_) (fun h1 => ?_)))
    · refine to_c (pc := 33) rw_96_33 (x := (0 : Int32)) rfl rfl (s_r1 (pc := 34) rw_96_34 (A := 0) rfl (by decide) ?_)
      have k_2 : (0 : Int32).toInt = 0 := rfl
      exact h (0 : Int32) N hG F0 (by decide) (by decide)
    · refine to_an (pc := 14) rw_96_14 rfl (to_in (pc := 15) rw_96_15 rfl (s_xal (pc := 16) rw_96_16 hX (e := 1) (n := 15) rfl (A := x3.toInt) rfl (by omega) (by omega) (fun v3 => to_is (pc := 17) rw_96_17 (ls2 := [.int x, .ref (mm_ext + 1), .int x2, .int x3, .int v3]) rfl rfl (to_i (pc := 19) rw_96_19 rfl (to_in (pc := 21) rw_96_21 rfl (b_cne (pc := 22) rw_96_22 (A := v3.toInt) (B := x.toInt) rfl rfl (fun h4 => ?_) (fun h4 => ?_)))))))
      · refine s_inc (pc := 27) rw_96_27 (ls2 := fun v => [.int x, .ref (mm_ext + 1), .int x2, .int v, .int v3]) rfl rfl (fun _ => rfl) (A := x3.toInt) (B := 1) rfl rfl (by omega) (fun v5 e6 => to_go (pc := 30) rw_96_30 ?_)
        exact ih N x2 v5 (.int v3) hG F0 (by omega) (by omega) (by omega) (by omega)
      · refine to_c (pc := 25) rw_96_25 (x := (1 : Int32)) rfl rfl (s_r1 (pc := 26) rw_96_26 (A := 1) rfl (by decide) ?_)
        have k_7 : (1 : Int32).toInt = 1 := rfl
        exact h (1 : Int32) N hG F0 (by decide) (by decide)
set_option maxRecDepth 4000 in
set_option maxHeartbeats 0 in
theorem C_96 {X : mm_X} {d : Nat} {M : mm_M} {Q : Option Value → mm_M → Prop} {x : Int32} (hX : g_X X) (hd : 0 ≤ d) (hG : g_G M) (h : ∀ (r : Int32) (M1 : mm_M), g_G M1 → FR md_0 M M1 → (0 ≤ r.toInt) → (r.toInt ≤ 1) → Q (some (.int r)) M1) : mm_T X d 96 0 [.int x, .null, .null, .null, .null] [] M Q := by
  have F0 : FR md_0 M M := FR.rf
  refine s_gs (pc := 0) rw_96_0 (to_asn (pc := 3) rw_96_3 (ls2 := [.int x, .ref (mm_ext + 1), .null, .null, .null]) rfl rfl (to_an (pc := 4) rw_96_4 rfl (s_xlen (pc := 5) rw_96_5 hX (e := 1) (n := 15) rfl (v := (15 : Int32)) rfl (to_isn (pc := 6) rw_96_6 (ls2 := [.int x, .ref (mm_ext + 1), .int (15 : Int32), .null, .null]) rfl rfl (to_c (pc := 7) rw_96_7 (x := (0 : Int32)) rfl rfl (to_isn (pc := 8) rw_96_8 (ls2 := [.int x, .ref (mm_ext + 1), .int (15 : Int32), .int (0 : Int32), .null]) rfl rfl ?_))))))
  have k_8 : (15 : Int32).toInt = 15 := rfl
  have k_9 : (0 : Int32).toInt = 0 := rfl
  exact (T_96_0 (x := x) hX hd  h ((15 - (0 : Int32).toInt).toNat + 1)) M (15 : Int32) (0 : Int32) (.null) hG F0 (by omega) (by omega) (by omega) (by omega)
set_option maxRecDepth 4000 in
set_option maxHeartbeats 0 in
theorem C_82 {X : mm_X} {d : Nat} {M : mm_M} {Q : Option Value → mm_M → Prop} {t : Int32} {v : Int32} {w : Int32} (hX : g_X X) (hd : 0 ≤ d) (hG : g_G M) (h : ∀ (M1 : mm_M), g_G M1 → FR md_t M M1 → (1 ≤ (M1.2.1 1 5).toInt) → Q (none) M1) : mm_T X d 82 0 [.ref 1, .int t, .int v, .int w] [] M Q := by
  have F0 : FR md_t M M := FR.rf
  refine to_an (pc := 0) rw_82_0 rfl ?_
  have b_1 := g_b hG (a := 1) (i := 5) (lo := 0) (hi := 501) rfl rfl
  refine tt_gI (pc := 1) rw_82_1 (g_o hG rfl) (v := (M.2.1 1 5)) rfl (to_an (pc := 4) rw_82_4 rfl (s_gR (pc := 5) rw_82_5 hG rfl (v := 3) rfl (s_len (pc := 8) rw_82_8 hG rfl rfl (n := 501) rfl (v := (501 : Int32)) rfl (b_cge (pc := 9) rw_82_9 (A := (M.2.1 1 5).toInt) (B := 501) rfl rfl (fun h2 => ?_) (fun h2 => ?_)))))
  · refine to_rv (pc := 52) rw_82_52 ?_
    exact h M hG F0 (by omega)
  · refine to_an (pc := 12) rw_82_12 rfl (s_gR (pc := 13) rw_82_13 hG rfl (v := 3) rfl (to_an (pc := 16) rw_82_16 rfl (tt_gI (pc := 17) rw_82_17 (g_o hG rfl) (v := (M.2.1 1 5)) rfl (to_in (pc := 20) rw_82_20 rfl (s_ias (pc := 21) rw_82_21 hG rfl (n := 501) rfl (A := (M.2.1 1 5).toInt) rfl (by omega) (by omega) (fun M4 W3 => ?_))))))
    have hG5 := g_wf hG W3 rfl rfl (by decide)
    have F6 := FR.w F0 W3 (show 3 = 1 ∧ 5 ≤ ((M.2.1 1 5).toInt).toNat ∨ 3 ≤ 3 ∧ 3 ≤ 5 by omega)
    refine to_an (pc := 22) rw_82_22 rfl (s_gR (pc := 23) rw_82_23 hG5 rfl (v := 4) rfl (to_an (pc := 26) rw_82_26 rfl ?_))
    have c_7 : M4.2.1 1 5 = (M.2.1 1 5) := (W_n W3 (fun z => absurd z.1 (by decide)) rfl)
    refine tt_gI (pc := 27) rw_82_27 (g_o hG5 rfl) (v := (M.2.1 1 5)) c_7 (to_in (pc := 30) rw_82_30 rfl (s_ias (pc := 31) rw_82_31 hG5 rfl (n := 501) rfl (A := (M.2.1 1 5).toInt) rfl (by omega) (by omega) (fun M9 W8 => ?_)))
    have hG10 := g_wf hG5 W8 rfl rfl (by decide)
    have F11 := FR.w F6 W8 (show 4 = 1 ∧ 5 ≤ ((M.2.1 1 5).toInt).toNat ∨ 3 ≤ 4 ∧ 4 ≤ 5 by omega)
    refine to_an (pc := 32) rw_82_32 rfl (s_gR (pc := 33) rw_82_33 hG10 rfl (v := 5) rfl (to_an (pc := 36) rw_82_36 rfl ?_))
    have c_12 : M9.2.1 1 5 = (M.2.1 1 5) := (W_n W8 (fun z => absurd z.1 (by decide)) c_7)
    refine tt_gI (pc := 37) rw_82_37 (g_o hG10 rfl) (v := (M.2.1 1 5)) c_12 (to_in (pc := 40) rw_82_40 rfl (s_ias (pc := 41) rw_82_41 hG10 rfl (n := 501) rfl (A := (M.2.1 1 5).toInt) rfl (by omega) (by omega) (fun M14 W13 => ?_)))
    have hG15 := g_wf hG10 W13 rfl rfl (by decide)
    have F16 := FR.w F11 W13 (show 5 = 1 ∧ 5 ≤ ((M.2.1 1 5).toInt).toNat ∨ 3 ≤ 5 ∧ 5 ≤ 5 by omega)
    refine to_an (pc := 42) rw_82_42 rfl (to_dupr (pc := 43) rw_82_43 ?_)
    have c_17 : M14.2.1 1 5 = (M.2.1 1 5) := (W_n W13 (fun z => absurd z.1 (by decide)) c_12)
    refine tt_gI (pc := 44) rw_82_44 (g_o hG15 rfl) (v := (M.2.1 1 5)) c_17 (to_c (pc := 47) rw_82_47 (x := (1 : Int32)) rfl rfl (s_add (pc := 48) rw_82_48 (A := (M.2.1 1 5).toInt) (B := 1) rfl rfl (by omega) (fun v18 e19 => s_pI (pc := 49) rw_82_49 hG15 rfl (fun M21 W20 => ?_))))
    have hG22 := g_w hG15 W20 (A := v18.toInt) rfl (lo := 0) (hi := 501) rfl rfl (by omega) (by decide)
    have F23 := FR.w F16 W20 (show 1 = 1 ∧ 5 ≤ 5 ∨ 3 ≤ 1 ∧ 1 ≤ 5 by decide)
    refine to_rv (pc := 52) rw_82_52 ?_
    have c_24 : M21.2.1 1 5 = v18 := (W_e W20)
    have t_25 : (M21.2.1 1 5).toInt = v18.toInt := congrArg Int32.toInt c_24
    exact h M21 hG22 F23 (by omega)
set_option maxRecDepth 4000 in
set_option maxHeartbeats 0 in
theorem C_83 {X : mm_X} {d : Nat} {M : mm_M} {Q : Option Value → mm_M → Prop} (hX : g_X X) (hd : 0 ≤ d) (hG : g_G M) (h : ∀ (M1 : mm_M), g_G M1 → FR md_t M M1 → Q (none) M1) : mm_T X d 83 0 [.ref 1] [] M Q := by
  have F0 : FR md_t M M := FR.rf
  refine to_an (pc := 0) rw_83_0 rfl ?_
  have b_1 := g_b hG (a := 1) (i := 6) (lo := 0) (hi := 500) rfl rfl
  refine tt_gI (pc := 1) rw_83_1 (g_o hG rfl) (v := (M.2.1 1 6)) rfl (to_c (pc := 4) rw_83_4 (x := (1 : Int32)) rfl rfl (s_add (pc := 5) rw_83_5 (A := (M.2.1 1 6).toInt) (B := 1) rfl rfl (by omega) (fun v2 e3 => to_an (pc := 6) rw_83_6 rfl ?_)))
  have b_4 := g_b hG (a := 1) (i := 5) (lo := 0) (hi := 501) rfl rfl
  refine tt_gI (pc := 7) rw_83_7 (g_o hG rfl) (v := (M.2.1 1 5)) rfl (b_cge (pc := 10) rw_83_10 (A := v2.toInt) (B := (M.2.1 1 5).toInt) rfl rfl (fun h5 => ?_) (fun h5 => ?_))
  · refine to_an (pc := 23) rw_83_23 rfl (to_an (pc := 24) rw_83_24 rfl (s_gR (pc := 25) rw_83_25 hG rfl (v := 3) rfl (to_an (pc := 28) rw_83_28 rfl (tt_gI (pc := 29) rw_83_29 (g_o hG rfl) (v := (M.2.1 1 6)) rfl (s_ial (pc := 32) rw_83_32 hG rfl (n := 501) rfl rfl (A := (M.2.1 1 6).toInt) rfl (by omega) (by omega) (lo := -2147483648) (hi := 2147483647) rfl rfl (fun v6 w_7 _ _ => s_pI (pc := 33) rw_83_33 hG rfl (fun M9 W8 => ?_)))))))
    have hG10 := g_wf hG W8 rfl rfl (by decide)
    have F11 := FR.w F0 W8 (show 1 = 1 ∧ 5 ≤ 7 ∨ 3 ≤ 1 ∧ 1 ≤ 5 by decide)
    refine to_an (pc := 36) rw_83_36 rfl (to_an (pc := 37) rw_83_37 rfl (s_gR (pc := 38) rw_83_38 hG10 rfl (v := 4) rfl (to_an (pc := 41) rw_83_41 rfl ?_)))
    have c_12 : M9.2.1 1 6 = (M.2.1 1 6) := (W_n W8 (by decide) rfl)
    refine tt_gI (pc := 42) rw_83_42 (g_o hG10 rfl) (v := (M.2.1 1 6)) c_12 (s_ial (pc := 45) rw_83_45 hG10 rfl (n := 501) rfl rfl (A := (M.2.1 1 6).toInt) rfl (by omega) (by omega) (lo := -2147483648) (hi := 2147483647) rfl rfl (fun v13 w_14 _ _ => s_pI (pc := 46) rw_83_46 hG10 rfl (fun M16 W15 => ?_)))
    have hG17 := g_wf hG10 W15 rfl rfl (by decide)
    have F18 := FR.w F11 W15 (show 1 = 1 ∧ 5 ≤ 8 ∨ 3 ≤ 1 ∧ 1 ≤ 5 by decide)
    refine to_an (pc := 49) rw_83_49 rfl (to_an (pc := 50) rw_83_50 rfl (s_gR (pc := 51) rw_83_51 hG17 rfl (v := 5) rfl (to_an (pc := 54) rw_83_54 rfl ?_)))
    have c_19 : M16.2.1 1 6 = (M.2.1 1 6) := (W_n W15 (by decide) c_12)
    refine tt_gI (pc := 55) rw_83_55 (g_o hG17 rfl) (v := (M.2.1 1 6)) c_19 (s_ial (pc := 58) rw_83_58 hG17 rfl (n := 501) rfl rfl (A := (M.2.1 1 6).toInt) rfl (by omega) (by omega) (lo := -2147483648) (hi := 2147483647) rfl rfl (fun v20 w_21 _ _ => s_pI (pc := 59) rw_83_59 hG17 rfl (fun M23 W22 => ?_)))
    have hG24 := g_wf hG17 W22 rfl rfl (by decide)
    have F25 := FR.w F18 W22 (show 1 = 1 ∧ 5 ≤ 9 ∨ 3 ≤ 1 ∧ 1 ≤ 5 by decide)
    refine to_rv (pc := 62) rw_83_62 ?_
    exact h M23 hG24 F25 
  · refine to_an (pc := 13) rw_83_13 rfl (to_dupr (pc := 14) rw_83_14 (tt_gI (pc := 15) rw_83_15 (g_o hG rfl) (v := (M.2.1 1 6)) rfl (to_c (pc := 18) rw_83_18 (x := (1 : Int32)) rfl rfl (s_add (pc := 19) rw_83_19 (A := (M.2.1 1 6).toInt) (B := 1) rfl rfl (by omega) (fun v26 e27 => s_pI (pc := 20) rw_83_20 hG rfl (fun M29 W28 => ?_))))))
    have hG30 := g_w hG W28 (A := v26.toInt) rfl (lo := 0) (hi := 500) rfl rfl (by omega) (by decide)
    have F31 := FR.w F0 W28 (show 1 = 1 ∧ 5 ≤ 6 ∨ 3 ≤ 1 ∧ 1 ≤ 5 by decide)
    refine to_an (pc := 23) rw_83_23 rfl (to_an (pc := 24) rw_83_24 rfl (s_gR (pc := 25) rw_83_25 hG30 rfl (v := 3) rfl (to_an (pc := 28) rw_83_28 rfl ?_)))
    have c_32 : M29.2.1 1 6 = v26 := (W_e W28)
    refine tt_gI (pc := 29) rw_83_29 (g_o hG30 rfl) (v := v26) c_32 (s_ial (pc := 32) rw_83_32 hG30 rfl (n := 501) rfl rfl (A := v26.toInt) rfl (by omega) (by omega) (lo := -2147483648) (hi := 2147483647) rfl rfl (fun v33 w_34 _ _ => s_pI (pc := 33) rw_83_33 hG30 rfl (fun M36 W35 => ?_)))
    have hG37 := g_wf hG30 W35 rfl rfl (by decide)
    have F38 := FR.w F31 W35 (show 1 = 1 ∧ 5 ≤ 7 ∨ 3 ≤ 1 ∧ 1 ≤ 5 by decide)
    refine to_an (pc := 36) rw_83_36 rfl (to_an (pc := 37) rw_83_37 rfl (s_gR (pc := 38) rw_83_38 hG37 rfl (v := 4) rfl (to_an (pc := 41) rw_83_41 rfl ?_)))
    have c_39 : M36.2.1 1 6 = v26 := (W_n W35 (by decide) c_32)
    refine tt_gI (pc := 42) rw_83_42 (g_o hG37 rfl) (v := v26) c_39 (s_ial (pc := 45) rw_83_45 hG37 rfl (n := 501) rfl rfl (A := v26.toInt) rfl (by omega) (by omega) (lo := -2147483648) (hi := 2147483647) rfl rfl (fun v40 w_41 _ _ => s_pI (pc := 46) rw_83_46 hG37 rfl (fun M43 W42 => ?_)))
    have hG44 := g_wf hG37 W42 rfl rfl (by decide)
    have F45 := FR.w F38 W42 (show 1 = 1 ∧ 5 ≤ 8 ∨ 3 ≤ 1 ∧ 1 ≤ 5 by decide)
    refine to_an (pc := 49) rw_83_49 rfl (to_an (pc := 50) rw_83_50 rfl (s_gR (pc := 51) rw_83_51 hG44 rfl (v := 5) rfl (to_an (pc := 54) rw_83_54 rfl ?_)))
    have c_46 : M43.2.1 1 6 = v26 := (W_n W42 (by decide) c_39)
    refine tt_gI (pc := 55) rw_83_55 (g_o hG44 rfl) (v := v26) c_46 (s_ial (pc := 58) rw_83_58 hG44 rfl (n := 501) rfl rfl (A := v26.toInt) rfl (by omega) (by omega) (lo := -2147483648) (hi := 2147483647) rfl rfl (fun v47 w_48 _ _ => s_pI (pc := 59) rw_83_59 hG44 rfl (fun M50 W49 => ?_)))
    have hG51 := g_wf hG44 W49 rfl rfl (by decide)
    have F52 := FR.w F45 W49 (show 1 = 1 ∧ 5 ≤ 9 ∨ 3 ≤ 1 ∧ 1 ≤ 5 by decide)
    refine to_rv (pc := 62) rw_83_62 ?_
    exact h M50 hG51 F52 
set_option maxRecDepth 4000 in
set_option maxHeartbeats 0 in
theorem T_80_0 {X : mm_X} {d : Nat} {M : mm_M} {Q : Option Value → mm_M → Prop} {f : Int32} {n : Int32} (hX : g_X X) (hd : 1 ≤ d) (q1 : 0 ≤ f.toInt) (q2 : f.toInt ≤ 500) (q3 : 0 ≤ n.toInt) (q4 : n.toInt ≤ 500) (h : ∀ (r : Int32) (M1 : mm_M), g_G M1 → FR md_t M M1 → (f.toInt ≤ r.toInt) → (r.toInt ≤ 500) → Q (some (.int r)) M1) : ∀ nn9 : Nat, (∀ (N : mm_M) (x3 : Int32) (x4 : Int32), g_G N → FR md_t M N → (0 ≤ x4.toInt) → (x4.toInt ≤ 500) → (f.toInt ≤ x4.toInt) → (0 ≤ f.toInt) → (n.toInt ≤ 500) → (f.toInt = f.toInt) → 500 - x4.toInt < (nn9 : Int) → mm_T X d 80 5 [.ref 1, .int f, .int n, .int x3, .int x4] [] N Q) := by
  intro nn9
  induction nn9 with
  | zero =>
    intro N x3 x4 hG F0 g1 g2 g3 g4 g5 g6 hm
    exfalso; omega
  | succ nn9 ih =>
    intro N x3 x4 hG F0 g1 g2 g3 g4 g5 g6 hm
    refine to_i (pc := 5) rw_80_5 rfl (to_in (pc := 7) rw_80_7 rfl (b_cge (pc := 8) rw_80_8 (A := x4.toInt) (B := n.toInt) rfl rfl (fun h1 => ?_) (fun h1 => ?_)))
    · refine to_i (pc := 60) rw_80_60 rfl (to_in (pc := 62) rw_80_62 rfl (s_sub (pc := 63) rw_80_63 (A := x4.toInt) (B := f.toInt) rfl rfl (by omega) (fun v2 e3 => to_c (pc := 64) rw_80_64 (x := (6 : Int32)) rfl rfl (b_cle (pc := 66) rw_80_66 (A := v2.toInt) (B := 6) rfl rfl (fun h4 => ?_) (fun h4 => ?_)))))
      · refine to_an (pc := 79) rw_80_79 rfl (to_in (pc := 80) rw_80_80 rfl (s_s (pc := 81) rw_80_81 (dp0 hd (by decide)) (ls0 := [.int x3, .null, .null, .null, .null]) rfl (Nat.le_of_ble_eq_true rfl) (Nat.le_of_ble_eq_true rfl) rfl (to_rcs rfl rfl) rfl (C_96 hX (dp1 hd (by decide)) hG (x := x3) (fun r5 M10 hG7 F6 p_8 p_9 => ?_))))
        have F11 := FR.c F0 F6 tg_109
        refine b_ieq (pc := 84) rw_80_84 (A := r5.toInt) rfl (fun h12 => ?_) (fun h12 => ?_)
        · refine to_c (pc := 91) rw_80_91 (x := (3 : Int32)) rfl rfl (to_in (pc := 92) rw_80_92 rfl (to_in (pc := 93) rw_80_93 rfl (s_v (pc := 94) rw_80_94 (dp0 hd (by decide)) (ls0 := [.ref 1, .int (3 : Int32), .int x3, .int f]) rfl (Nat.le_of_ble_eq_true rfl) (Nat.le_of_ble_eq_true rfl) rfl (to_rc rfl rfl rfl (g_o hG7 rfl)) rfl ?_)))
          have k_13 : (3 : Int32).toInt = 3 := rfl
          refine C_82 hX (dp1 hd (by decide)) hG7 (t := (3 : Int32)) (v := x3) (w := f) (fun M17 hG15 F14 p_16 => ?_)
          have F18 := FR.c F11 F14 tg_110
          have b_19 := g_b hG15 (a := 1) (i := 5) (lo := 0) (hi := 501) rfl rfl
          refine to_i (pc := 97) rw_80_97 rfl (to_r0 (pc := 99) rw_80_99 ?_)
          exact h x4 M17 hG15 F18 (by omega) (by omega)
        · refine to_c (pc := 87) rw_80_87 (x := (4 : Int32)) rfl rfl (to_go (pc := 88) rw_80_88 (to_in (pc := 92) rw_80_92 rfl (to_in (pc := 93) rw_80_93 rfl (s_v (pc := 94) rw_80_94 (dp0 hd (by decide)) (ls0 := [.ref 1, .int (4 : Int32), .int x3, .int f]) rfl (Nat.le_of_ble_eq_true rfl) (Nat.le_of_ble_eq_true rfl) rfl (to_rc rfl rfl rfl (g_o hG7 rfl)) rfl ?_))))
          have k_20 : (4 : Int32).toInt = 4 := rfl
          refine C_82 hX (dp1 hd (by decide)) hG7 (t := (4 : Int32)) (v := x3) (w := f) (fun M24 hG22 F21 p_23 => ?_)
          have F25 := FR.c F11 F21 tg_110
          have b_26 := g_b hG22 (a := 1) (i := 5) (lo := 0) (hi := 501) rfl rfl
          refine to_i (pc := 97) rw_80_97 rfl (to_r0 (pc := 99) rw_80_99 ?_)
          exact h x4 M24 hG22 F25 (by omega) (by omega)
      · refine to_an (pc := 69) rw_80_69 rfl (to_c (pc := 70) rw_80_70 (x := (1 : Int32)) rfl rfl (to_c (pc := 71) rw_80_71 (x := (0 : Int32)) rfl rfl (to_in (pc := 72) rw_80_72 rfl (s_v (pc := 73) rw_80_73 (dp0 hd (by decide)) (ls0 := [.ref 1, .int (1 : Int32), .int (0 : Int32), .int f]) rfl (Nat.le_of_ble_eq_true rfl) (Nat.le_of_ble_eq_true rfl) rfl (to_rc rfl rfl rfl (g_o hG rfl)) rfl ?_))))
        have k_27 : (1 : Int32).toInt = 1 := rfl
        have k_28 : (0 : Int32).toInt = 0 := rfl
        refine C_82 hX (dp1 hd (by decide)) hG (t := (1 : Int32)) (v := (0 : Int32)) (w := f) (fun M32 hG30 F29 p_31 => ?_)
        have F33 := FR.c F0 F29 tg_110
        have b_34 := g_b hG30 (a := 1) (i := 5) (lo := 0) (hi := 501) rfl rfl
        refine to_go (pc := 76) rw_80_76 (to_i (pc := 97) rw_80_97 rfl (to_r0 (pc := 99) rw_80_99 ?_))
        exact h x4 M32 hG30 F33 (by omega) (by omega)
    · refine to_an (pc := 11) rw_80_11 rfl (to_i (pc := 12) rw_80_12 rfl (s_v (pc := 14) rw_80_14 (dp0 hd (by decide)) (ls0 := [.ref 1, .int x4]) rfl (Nat.le_of_ble_eq_true rfl) (Nat.le_of_ble_eq_true rfl) rfl (to_rc rfl rfl rfl (g_o hG rfl)) rfl (to_in (pc := 0) rw_91_0 rfl (b_ilt_f (pc := 1) rw_91_1 (A := x4.toInt) rfl (by omega) (to_in (pc := 4) rw_91_4 rfl (to_an (pc := 5) rw_91_5 rfl (s_gR (pc := 6) rw_91_6 hG rfl (v := 2) rfl (s_len (pc := 9) rw_91_9 hG rfl rfl (n := 500) rfl (v := (500 : Int32)) rfl (b_cge_f (pc := 10) rw_91_10 (A := x4.toInt) (B := 500) rfl rfl (by omega) (to_an (pc := 13) rw_91_13 rfl (s_gR (pc := 14) rw_91_14 hG rfl (v := 2) rfl ?_)))))))))))
      refine to_in (pc := 17) rw_91_17 rfl (s_bal (pc := 18) rw_91_18 hG rfl (n := 500) rfl (A := x4.toInt) rfl (by omega) (by omega) (lo := -2147483648) (hi := 2147483647) rfl rfl (fun v35 w_36 _ _ => to_c (pc := 19) rw_91_19 (x := (255 : Int32)) rfl rfl (s_and (pc := 22) rw_91_22 (B := 255) rfl (by omega) (fun v37 e38 _ _ => to_go (pc := 23) rw_91_23 (to_r0 (pc := 27) rw_91_27 (s_s (pc := 17) rw_80_17 (dp0 hd (by decide)) (ls0 := [.int v37]) rfl (Nat.le_of_ble_eq_true rfl) (Nat.le_of_ble_eq_true rfl) rfl (to_rcs rfl rfl) rfl (to_in (pc := 0) rw_93_0 rfl (to_c (pc := 1) rw_93_1 (x := (97 : Int32)) rfl rfl (b_clt (pc := 3) rw_93_3 (A := v37.toInt) (B := 97) rfl rfl (fun h39 => ?_) (fun h39 => ?_))))))))))
      · refine to_c (pc := 16) rw_93_16 (x := (0 : Int32)) rfl rfl (s_r1 (pc := 17) rw_93_17 (A := 0) rfl (by decide) (b_ieq_t (pc := 20) rw_80_20 (A := 0) rfl (by decide) (to_i (pc := 60) rw_80_60 rfl (to_in (pc := 62) rw_80_62 rfl (s_sub (pc := 63) rw_80_63 (A := x4.toInt) (B := f.toInt) rfl rfl (by omega) (fun v40 e41 => to_c (pc := 64) rw_80_64 (x := (6 : Int32)) rfl rfl (b_cle (pc := 66) rw_80_66 (A := v40.toInt) (B := 6) rfl rfl (fun h42 => ?_) (fun h42 => ?_))))))))
        · refine to_an (pc := 79) rw_80_79 rfl (to_in (pc := 80) rw_80_80 rfl (s_s (pc := 81) rw_80_81 (dp0 hd (by decide)) (ls0 := [.int x3, .null, .null, .null, .null]) rfl (Nat.le_of_ble_eq_true rfl) (Nat.le_of_ble_eq_true rfl) rfl (to_rcs rfl rfl) rfl (C_96 hX (dp1 hd (by decide)) hG (x := x3) (fun r43 M48 hG45 F44 p_46 p_47 => ?_))))
          have F49 := FR.c F0 F44 tg_109
          refine b_ieq (pc := 84) rw_80_84 (A := r43.toInt) rfl (fun h50 => ?_) (fun h50 => ?_)
          · refine to_c (pc := 91) rw_80_91 (x := (3 : Int32)) rfl rfl (to_in (pc := 92) rw_80_92 rfl (to_in (pc := 93) rw_80_93 rfl (s_v (pc := 94) rw_80_94 (dp0 hd (by decide)) (ls0 := [.ref 1, .int (3 : Int32), .int x3, .int f]) rfl (Nat.le_of_ble_eq_true rfl) (Nat.le_of_ble_eq_true rfl) rfl (to_rc rfl rfl rfl (g_o hG45 rfl)) rfl ?_)))
            have k_51 : (3 : Int32).toInt = 3 := rfl
            refine C_82 hX (dp1 hd (by decide)) hG45 (t := (3 : Int32)) (v := x3) (w := f) (fun M55 hG53 F52 p_54 => ?_)
            have F56 := FR.c F49 F52 tg_110
            have b_57 := g_b hG53 (a := 1) (i := 5) (lo := 0) (hi := 501) rfl rfl
            refine to_i (pc := 97) rw_80_97 rfl (to_r0 (pc := 99) rw_80_99 ?_)
            exact h x4 M55 hG53 F56 (by omega) (by omega)
          · refine to_c (pc := 87) rw_80_87 (x := (4 : Int32)) rfl rfl (to_go (pc := 88) rw_80_88 (to_in (pc := 92) rw_80_92 rfl (to_in (pc := 93) rw_80_93 rfl (s_v (pc := 94) rw_80_94 (dp0 hd (by decide)) (ls0 := [.ref 1, .int (4 : Int32), .int x3, .int f]) rfl (Nat.le_of_ble_eq_true rfl) (Nat.le_of_ble_eq_true rfl) rfl (to_rc rfl rfl rfl (g_o hG45 rfl)) rfl ?_))))
            have k_58 : (4 : Int32).toInt = 4 := rfl
            refine C_82 hX (dp1 hd (by decide)) hG45 (t := (4 : Int32)) (v := x3) (w := f) (fun M62 hG60 F59 p_61 => ?_)
            have F63 := FR.c F49 F59 tg_110
            have b_64 := g_b hG60 (a := 1) (i := 5) (lo := 0) (hi := 501) rfl rfl
            refine to_i (pc := 97) rw_80_97 rfl (to_r0 (pc := 99) rw_80_99 ?_)
            exact h x4 M62 hG60 F63 (by omega) (by omega)
        · refine to_an (pc := 69) rw_80_69 rfl (to_c (pc := 70) rw_80_70 (x := (1 : Int32)) rfl rfl (to_c (pc := 71) rw_80_71 (x := (0 : Int32)) rfl rfl (to_in (pc := 72) rw_80_72 rfl (s_v (pc := 73) rw_80_73 (dp0 hd (by decide)) (ls0 := [.ref 1, .int (1 : Int32), .int (0 : Int32), .int f]) rfl (Nat.le_of_ble_eq_true rfl) (Nat.le_of_ble_eq_true rfl) rfl (to_rc rfl rfl rfl (g_o hG rfl)) rfl ?_))))
          have k_65 : (1 : Int32).toInt = 1 := rfl
          have k_66 : (0 : Int32).toInt = 0 := rfl
          refine C_82 hX (dp1 hd (by decide)) hG (t := (1 : Int32)) (v := (0 : Int32)) (w := f) (fun M70 hG68 F67 p_69 => ?_)
          have F71 := FR.c F0 F67 tg_110
          have b_72 := g_b hG68 (a := 1) (i := 5) (lo := 0) (hi := 501) rfl rfl
          refine to_go (pc := 76) rw_80_76 (to_i (pc := 97) rw_80_97 rfl (to_r0 (pc := 99) rw_80_99 ?_))
          exact h x4 M70 hG68 F71 (by omega) (by omega)
      · refine to_in (pc := 6) rw_93_6 rfl (to_c (pc := 7) rw_93_7 (x := (122 : Int32)) rfl rfl (b_cgt (pc := 9) rw_93_9 (A := v37.toInt) (B := 122) rfl rfl (fun h73 => ?_) (fun h73 => ?_)))
        · refine to_c (pc := 16) rw_93_16 (x := (0 : Int32)) rfl rfl (s_r1 (pc := 17) rw_93_17 (A := 0) rfl (by decide) (b_ieq_t (pc := 20) rw_80_20 (A := 0) rfl (by decide) (to_i (pc := 60) rw_80_60 rfl (to_in (pc := 62) rw_80_62 rfl (s_sub (pc := 63) rw_80_63 (A := x4.toInt) (B := f.toInt) rfl rfl (by omega) (fun v74 e75 => to_c (pc := 64) rw_80_64 (x := (6 : Int32)) rfl rfl (b_cle (pc := 66) rw_80_66 (A := v74.toInt) (B := 6) rfl rfl (fun h76 => ?_) (fun h76 => ?_))))))))
          · refine to_an (pc := 79) rw_80_79 rfl (to_in (pc := 80) rw_80_80 rfl (s_s (pc := 81) rw_80_81 (dp0 hd (by decide)) (ls0 := [.int x3, .null, .null, .null, .null]) rfl (Nat.le_of_ble_eq_true rfl) (Nat.le_of_ble_eq_true rfl) rfl (to_rcs rfl rfl) rfl (C_96 hX (dp1 hd (by decide)) hG (x := x3) (fun r77 M82 hG79 F78 p_80 p_81 => ?_))))
            have F83 := FR.c F0 F78 tg_109
            refine b_ieq (pc := 84) rw_80_84 (A := r77.toInt) rfl (fun h84 => ?_) (fun h84 => ?_)
            · refine to_c (pc := 91) rw_80_91 (x := (3 : Int32)) rfl rfl (to_in (pc := 92) rw_80_92 rfl (to_in (pc := 93) rw_80_93 rfl (s_v (pc := 94) rw_80_94 (dp0 hd (by decide)) (ls0 := [.ref 1, .int (3 : Int32), .int x3, .int f]) rfl (Nat.le_of_ble_eq_true rfl) (Nat.le_of_ble_eq_true rfl) rfl (to_rc rfl rfl rfl (g_o hG79 rfl)) rfl ?_)))
              have k_85 : (3 : Int32).toInt = 3 := rfl
              refine C_82 hX (dp1 hd (by decide)) hG79 (t := (3 : Int32)) (v := x3) (w := f) (fun M89 hG87 F86 p_88 => ?_)
              have F90 := FR.c F83 F86 tg_110
              have b_91 := g_b hG87 (a := 1) (i := 5) (lo := 0) (hi := 501) rfl rfl
              refine to_i (pc := 97) rw_80_97 rfl (to_r0 (pc := 99) rw_80_99 ?_)
              exact h x4 M89 hG87 F90 (by omega) (by omega)
            · refine to_c (pc := 87) rw_80_87 (x := (4 : Int32)) rfl rfl (to_go (pc := 88) rw_80_88 (to_in (pc := 92) rw_80_92 rfl (to_in (pc := 93) rw_80_93 rfl (s_v (pc := 94) rw_80_94 (dp0 hd (by decide)) (ls0 := [.ref 1, .int (4 : Int32), .int x3, .int f]) rfl (Nat.le_of_ble_eq_true rfl) (Nat.le_of_ble_eq_true rfl) rfl (to_rc rfl rfl rfl (g_o hG79 rfl)) rfl ?_))))
              have k_92 : (4 : Int32).toInt = 4 := rfl
              refine C_82 hX (dp1 hd (by decide)) hG79 (t := (4 : Int32)) (v := x3) (w := f) (fun M96 hG94 F93 p_95 => ?_)
              have F97 := FR.c F83 F93 tg_110
              have b_98 := g_b hG94 (a := 1) (i := 5) (lo := 0) (hi := 501) rfl rfl
              refine to_i (pc := 97) rw_80_97 rfl (to_r0 (pc := 99) rw_80_99 ?_)
              exact h x4 M96 hG94 F97 (by omega) (by omega)
          · refine to_an (pc := 69) rw_80_69 rfl (to_c (pc := 70) rw_80_70 (x := (1 : Int32)) rfl rfl (to_c (pc := 71) rw_80_71 (x := (0 : Int32)) rfl rfl (to_in (pc := 72) rw_80_72 rfl (s_v (pc := 73) rw_80_73 (dp0 hd (by decide)) (ls0 := [.ref 1, .int (1 : Int32), .int (0 : Int32), .int f]) rfl (Nat.le_of_ble_eq_true rfl) (Nat.le_of_ble_eq_true rfl) rfl (to_rc rfl rfl rfl (g_o hG rfl)) rfl ?_))))
            have k_99 : (1 : Int32).toInt = 1 := rfl
            have k_100 : (0 : Int32).toInt = 0 := rfl
            refine C_82 hX (dp1 hd (by decide)) hG (t := (1 : Int32)) (v := (0 : Int32)) (w := f) (fun M104 hG102 F101 p_103 => ?_)
            have F105 := FR.c F0 F101 tg_110
            have b_106 := g_b hG102 (a := 1) (i := 5) (lo := 0) (hi := 501) rfl rfl
            refine to_go (pc := 76) rw_80_76 (to_i (pc := 97) rw_80_97 rfl (to_r0 (pc := 99) rw_80_99 ?_))
            exact h x4 M104 hG102 F105 (by omega) (by omega)
        · refine to_c (pc := 12) rw_93_12 (x := (1 : Int32)) rfl rfl (to_go (pc := 13) rw_93_13 (s_r1 (pc := 17) rw_93_17 (A := 1) rfl (by decide) (b_ieq_f (pc := 20) rw_80_20 (A := 1) rfl (by decide) (to_i (pc := 23) rw_80_23 rfl (to_in (pc := 25) rw_80_25 rfl (s_sub (pc := 26) rw_80_26 (A := x4.toInt) (B := f.toInt) rfl rfl (by omega) (fun v107 e108 => to_c (pc := 27) rw_80_27 (x := (6 : Int32)) rfl rfl (b_cge (pc := 29) rw_80_29 (A := v107.toInt) (B := 6) rfl rfl (fun h109 => ?_) (fun h109 => ?_)))))))))
          · refine s_inc (pc := 54) rw_80_54 (ls2 := fun v => [.ref 1, .int f, .int n, .int x3, .int v]) rfl rfl (fun _ => rfl) (A := x4.toInt) (B := 1) rfl rfl (by omega) (fun v110 e111 => to_go (pc := 57) rw_80_57 ?_)
            exact ih N x3 v110 hG F0 (by omega) (by omega) (by omega) (by omega) (by omega) (by omega) (by omega)
          · refine to_in (pc := 32) rw_80_32 rfl (to_an (pc := 33) rw_80_33 rfl (to_i (pc := 34) rw_80_34 rfl (s_v (pc := 36) rw_80_36 (dp0 hd (by decide)) (ls0 := [.ref 1, .int x4]) rfl (Nat.le_of_ble_eq_true rfl) (Nat.le_of_ble_eq_true rfl) rfl (to_rc rfl rfl rfl (g_o hG rfl)) rfl (to_in (pc := 0) rw_91_0 rfl (b_ilt_f (pc := 1) rw_91_1 (A := x4.toInt) rfl (by omega) (to_in (pc := 4) rw_91_4 rfl (to_an (pc := 5) rw_91_5 rfl (s_gR (pc := 6) rw_91_6 hG rfl (v := 2) rfl (s_len (pc := 9) rw_91_9 hG rfl rfl (n := 500) rfl (v := (500 : Int32)) rfl (b_cge_f (pc := 10) rw_91_10 (A := x4.toInt) (B := 500) rfl rfl (by omega) (to_an (pc := 13) rw_91_13 rfl ?_)))))))))))
            refine s_gR (pc := 14) rw_91_14 hG rfl (v := 2) rfl (to_in (pc := 17) rw_91_17 rfl (s_balk (pc := 18) rw_91_18 hG rfl (n := 500) rfl (A := x4.toInt) rfl (by omega) (by omega) (v := v35) w_36 (to_c (pc := 19) rw_91_19 (x := (255 : Int32)) rfl rfl (to_2 (pc := 22) rw_91_22 (v := v37) (congrArg some e38) (to_go (pc := 23) rw_91_23 (to_r0 (pc := 27) rw_91_27 (to_c (pc := 39) rw_80_39 (x := (31 : Int32)) rfl rfl (s_and (pc := 41) rw_80_41 (B := 31) rfl (by omega) (fun v116 e117 _ _ => to_c (pc := 42) rw_80_42 (x := (25 : Int32)) rfl rfl (to_c (pc := 44) rw_80_44 (x := (5 : Int32)) rfl rfl (to_i (pc := 45) rw_80_45 rfl ?_)))))))))))
            refine to_in (pc := 47) rw_80_47 rfl (s_sub (pc := 48) rw_80_48 (A := x4.toInt) (B := f.toInt) rfl rfl (by omega) (fun v118 e119 => s_mul (pc := 49) rw_80_49 (A := 5) (B := v118.toInt) rfl rfl (by omega) (fun v120 e121 => s_sub (pc := 50) rw_80_50 (A := 25) (B := v120.toInt) rfl rfl (by omega) (fun v122 e123 => s_any (pc := 51) rw_80_51 (fun _ _ => rfl) (fun v124 => s_any (pc := 52) rw_80_52 (fun _ _ => rfl) (fun v125 => to_isn (pc := 53) rw_80_53 (ls2 := [.ref 1, .int f, .int n, .int v125, .int x4]) rfl rfl (s_inc (pc := 54) rw_80_54 (ls2 := fun v => [.ref 1, .int f, .int n, .int v125, .int v]) rfl rfl (fun _ => rfl) (A := x4.toInt) (B := 1) rfl rfl (by omega) (fun v126 e127 => to_go (pc := 57) rw_80_57 ?_))))))))
            exact ih N v125 v126 hG F0 (by omega) (by omega) (by omega) (by omega) (by omega) (by omega) (by omega)
set_option maxRecDepth 4000 in
set_option maxHeartbeats 0 in
theorem C_80 {X : mm_X} {d : Nat} {M : mm_M} {Q : Option Value → mm_M → Prop} {f : Int32} {n : Int32} (hX : g_X X) (hd : 1 ≤ d) (hG : g_G M) (q1 : 0 ≤ f.toInt) (q2 : f.toInt ≤ 500) (q3 : 0 ≤ n.toInt) (q4 : n.toInt ≤ 500) (h : ∀ (r : Int32) (M1 : mm_M), g_G M1 → FR md_t M M1 → (f.toInt ≤ r.toInt) → (r.toInt ≤ 500) → Q (some (.int r)) M1) : mm_T X d 80 0 [.ref 1, .int f, .int n, .null, .null] [] M Q := by
  have F0 : FR md_t M M := FR.rf
  refine to_c (pc := 0) rw_80_0 (x := (0 : Int32)) rfl rfl (to_isn (pc := 1) rw_80_1 (ls2 := [.ref 1, .int f, .int n, .int (0 : Int32), .null]) rfl rfl (to_in (pc := 2) rw_80_2 rfl (to_is (pc := 3) rw_80_3 (ls2 := [.ref 1, .int f, .int n, .int (0 : Int32), .int f]) rfl rfl ?_)))
  have k_128 : (0 : Int32).toInt = 0 := rfl
  exact (T_80_0 (f := f) (n := n) hX hd q1 q2 q3 q4 h ((500 - f.toInt).toNat + 1)) M (0 : Int32) f hG F0 (by omega) (by omega) (by omega) (by omega) (by omega) (by omega) (by omega)
set_option maxRecDepth 4000 in
set_option maxHeartbeats 0 in
theorem T_81_0 {X : mm_X} {d : Nat} {M : mm_M} {Q : Option Value → mm_M → Prop} {f : Int32} {n : Int32} (hX : g_X X) (hd : 1 ≤ d) (q1 : 0 ≤ f.toInt) (q2 : f.toInt ≤ 500) (q3 : 0 ≤ n.toInt) (q4 : n.toInt ≤ 500) (h : ∀ (r : Int32) (M1 : mm_M), g_G M1 → FR md_t M M1 → (f.toInt ≤ r.toInt) → (r.toInt ≤ 500) → Q (some (.int r)) M1) : ∀ nn9 : Nat, (∀ (N : mm_M) (x3 : Int32) (x4 : Int32), g_G N → FR md_t M N → (0 ≤ x4.toInt) → (x4.toInt ≤ 500) → (f.toInt ≤ x4.toInt) → (0 ≤ f.toInt) → (n.toInt ≤ 500) → (x3.toInt ≤ 100) → (0 ≤ x3.toInt) → (f.toInt = f.toInt) → 500 - x4.toInt < (nn9 : Int) → mm_T X d 81 5 [.ref 1, .int f, .int n, .int x3, .int x4] [] N Q) := by
  intro nn9
  induction nn9 with
  | zero =>
    intro N x3 x4 hG F0 g1 g2 g3 g4 g5 g6 g7 g8 hm
    exfalso; omega
  | succ nn9 ih =>
    intro N x3 x4 hG F0 g1 g2 g3 g4 g5 g6 g7 g8 hm
    refine to_i (pc := 5) rw_81_5 rfl (to_in (pc := 7) rw_81_7 rfl (b_cge (pc := 8) rw_81_8 (A := x4.toInt) (B := n.toInt) rfl rfl (fun h1 => ?_) (fun h1 => ?_)))
    · refine to_an (pc := 49) rw_81_49 rfl (to_c (pc := 50) rw_81_50 (x := (2 : Int32)) rfl rfl (to_in (pc := 51) rw_81_51 rfl (to_in (pc := 52) rw_81_52 rfl (s_v (pc := 53) rw_81_53 (dp0 hd (by decide)) (ls0 := [.ref 1, .int (2 : Int32), .int x3, .int f]) rfl (Nat.le_of_ble_eq_true rfl) (Nat.le_of_ble_eq_true rfl) rfl (to_rc rfl rfl rfl (g_o hG rfl)) rfl ?_))))
      have k_2 : (2 : Int32).toInt = 2 := rfl
      refine C_82 hX (dp1 hd (by decide)) hG (t := (2 : Int32)) (v := x3) (w := f) (fun M6 hG4 F3 p_5 => ?_)
      have F7 := FR.c F0 F3 tg_110
      have b_8 := g_b hG4 (a := 1) (i := 5) (lo := 0) (hi := 501) rfl rfl
      refine to_i (pc := 56) rw_81_56 rfl (to_r0 (pc := 58) rw_81_58 ?_)
      exact h x4 M6 hG4 F7 (by omega) (by omega)
    · refine to_an (pc := 11) rw_81_11 rfl (to_i (pc := 12) rw_81_12 rfl (s_v (pc := 14) rw_81_14 (dp0 hd (by decide)) (ls0 := [.ref 1, .int x4]) rfl (Nat.le_of_ble_eq_true rfl) (Nat.le_of_ble_eq_true rfl) rfl (to_rc rfl rfl rfl (g_o hG rfl)) rfl (to_in (pc := 0) rw_91_0 rfl (b_ilt_f (pc := 1) rw_91_1 (A := x4.toInt) rfl (by omega) (to_in (pc := 4) rw_91_4 rfl (to_an (pc := 5) rw_91_5 rfl (s_gR (pc := 6) rw_91_6 hG rfl (v := 2) rfl (s_len (pc := 9) rw_91_9 hG rfl rfl (n := 500) rfl (v := (500 : Int32)) rfl (b_cge_f (pc := 10) rw_91_10 (A := x4.toInt) (B := 500) rfl rfl (by omega) (to_an (pc := 13) rw_91_13 rfl (s_gR (pc := 14) rw_91_14 hG rfl (v := 2) rfl ?_)))))))))))
      refine to_in (pc := 17) rw_91_17 rfl (s_bal (pc := 18) rw_91_18 hG rfl (n := 500) rfl (A := x4.toInt) rfl (by omega) (by omega) (lo := -2147483648) (hi := 2147483647) rfl rfl (fun v9 w_10 _ _ => to_c (pc := 19) rw_91_19 (x := (255 : Int32)) rfl rfl (s_and (pc := 22) rw_91_22 (B := 255) rfl (by omega) (fun v11 e12 _ _ => to_go (pc := 23) rw_91_23 (to_r0 (pc := 27) rw_91_27 (s_s (pc := 17) rw_81_17 (dp0 hd (by decide)) (ls0 := [.int v11]) rfl (Nat.le_of_ble_eq_true rfl) (Nat.le_of_ble_eq_true rfl) rfl (to_rcs rfl rfl) rfl (to_in (pc := 0) rw_94_0 rfl (to_c (pc := 1) rw_94_1 (x := (48 : Int32)) rfl rfl (b_clt (pc := 3) rw_94_3 (A := v11.toInt) (B := 48) rfl rfl (fun h13 => ?_) (fun h13 => ?_))))))))))
      · refine to_c (pc := 16) rw_94_16 (x := (0 : Int32)) rfl rfl (s_r1 (pc := 17) rw_94_17 (A := 0) rfl (by decide) (b_ieq_t (pc := 20) rw_81_20 (A := 0) rfl (by decide) (to_an (pc := 49) rw_81_49 rfl (to_c (pc := 50) rw_81_50 (x := (2 : Int32)) rfl rfl (to_in (pc := 51) rw_81_51 rfl (to_in (pc := 52) rw_81_52 rfl (s_v (pc := 53) rw_81_53 (dp0 hd (by decide)) (ls0 := [.ref 1, .int (2 : Int32), .int x3, .int f]) rfl (Nat.le_of_ble_eq_true rfl) (Nat.le_of_ble_eq_true rfl) rfl (to_rc rfl rfl rfl (g_o hG rfl)) rfl ?_)))))))
        have k_14 : (2 : Int32).toInt = 2 := rfl
        refine C_82 hX (dp1 hd (by decide)) hG (t := (2 : Int32)) (v := x3) (w := f) (fun M18 hG16 F15 p_17 => ?_)
        have F19 := FR.c F0 F15 tg_110
        have b_20 := g_b hG16 (a := 1) (i := 5) (lo := 0) (hi := 501) rfl rfl
        refine to_i (pc := 56) rw_81_56 rfl (to_r0 (pc := 58) rw_81_58 ?_)
        exact h x4 M18 hG16 F19 (by omega) (by omega)
      · refine to_in (pc := 6) rw_94_6 rfl (to_c (pc := 7) rw_94_7 (x := (57 : Int32)) rfl rfl (b_cgt (pc := 9) rw_94_9 (A := v11.toInt) (B := 57) rfl rfl (fun h21 => ?_) (fun h21 => ?_)))
        · refine to_c (pc := 16) rw_94_16 (x := (0 : Int32)) rfl rfl (s_r1 (pc := 17) rw_94_17 (A := 0) rfl (by decide) (b_ieq_t (pc := 20) rw_81_20 (A := 0) rfl (by decide) (to_an (pc := 49) rw_81_49 rfl (to_c (pc := 50) rw_81_50 (x := (2 : Int32)) rfl rfl (to_in (pc := 51) rw_81_51 rfl (to_in (pc := 52) rw_81_52 rfl (s_v (pc := 53) rw_81_53 (dp0 hd (by decide)) (ls0 := [.ref 1, .int (2 : Int32), .int x3, .int f]) rfl (Nat.le_of_ble_eq_true rfl) (Nat.le_of_ble_eq_true rfl) rfl (to_rc rfl rfl rfl (g_o hG rfl)) rfl ?_)))))))
          have k_22 : (2 : Int32).toInt = 2 := rfl
          refine C_82 hX (dp1 hd (by decide)) hG (t := (2 : Int32)) (v := x3) (w := f) (fun M26 hG24 F23 p_25 => ?_)
          have F27 := FR.c F0 F23 tg_110
          have b_28 := g_b hG24 (a := 1) (i := 5) (lo := 0) (hi := 501) rfl rfl
          refine to_i (pc := 56) rw_81_56 rfl (to_r0 (pc := 58) rw_81_58 ?_)
          exact h x4 M26 hG24 F27 (by omega) (by omega)
        · refine to_c (pc := 12) rw_94_12 (x := (1 : Int32)) rfl rfl (to_go (pc := 13) rw_94_13 (s_r1 (pc := 17) rw_94_17 (A := 1) rfl (by decide) (b_ieq_f (pc := 20) rw_81_20 (A := 1) rfl (by decide) (to_in (pc := 23) rw_81_23 rfl (to_c (pc := 24) rw_81_24 (x := (10 : Int32)) rfl rfl (s_mul (pc := 26) rw_81_26 (A := x3.toInt) (B := 10) rfl rfl (by omega) (fun v29 e30 => to_an (pc := 27) rw_81_27 rfl (to_i (pc := 28) rw_81_28 rfl (s_v (pc := 30) rw_81_30 (dp0 hd (by decide)) (ls0 := [.ref 1, .int x4]) rfl (Nat.le_of_ble_eq_true rfl) (Nat.le_of_ble_eq_true rfl) rfl (to_rc rfl rfl rfl (g_o hG rfl)) rfl (to_in (pc := 0) rw_91_0 rfl (b_ilt_f (pc := 1) rw_91_1 (A := x4.toInt) rfl (by omega) ?_)))))))))))
          refine to_in (pc := 4) rw_91_4 rfl (to_an (pc := 5) rw_91_5 rfl (s_gR (pc := 6) rw_91_6 hG rfl (v := 2) rfl (s_len (pc := 9) rw_91_9 hG rfl rfl (n := 500) rfl (v := (500 : Int32)) rfl (b_cge_f (pc := 10) rw_91_10 (A := x4.toInt) (B := 500) rfl rfl (by omega) (to_an (pc := 13) rw_91_13 rfl (s_gR (pc := 14) rw_91_14 hG rfl (v := 2) rfl (to_in (pc := 17) rw_91_17 rfl (s_balk (pc := 18) rw_91_18 hG rfl (n := 500) rfl (A := x4.toInt) rfl (by omega) (by omega) (v := v9) w_10 (to_c (pc := 19) rw_91_19 (x := (255 : Int32)) rfl rfl (to_2 (pc := 22) rw_91_22 (v := v11) (congrArg some e12) (to_go (pc := 23) rw_91_23 ?_)))))))))))
          refine to_r0 (pc := 27) rw_91_27 (s_add (pc := 33) rw_81_33 (A := v29.toInt) (B := v11.toInt) rfl rfl (by omega) (fun v35 e36 => to_c (pc := 34) rw_81_34 (x := (48 : Int32)) rfl rfl (s_sub (pc := 36) rw_81_36 (A := v35.toInt) (B := 48) rfl rfl (by omega) (fun v37 e38 => to_c (pc := 37) rw_81_37 (x := (100 : Int32)) rfl rfl (s_min (pc := 39) rw_81_39 rfl (A := v37.toInt) (B := 100) rfl rfl (fun v39 _ _ _ => to_isn (pc := 42) rw_81_42 (ls2 := [.ref 1, .int f, .int n, .int v39, .int x4]) rfl rfl (s_inc (pc := 43) rw_81_43 (ls2 := fun v => [.ref 1, .int f, .int n, .int v39, .int v]) rfl rfl (fun _ => rfl) (A := x4.toInt) (B := 1) rfl rfl (by omega) (fun v40 e41 => to_go (pc := 46) rw_81_46 ?_))))))))
          exact ih N v39 v40 hG F0 (by omega) (by omega) (by omega) (by omega) (by omega) (by omega) (by omega) (by omega) (by omega)
set_option maxRecDepth 4000 in
set_option maxHeartbeats 0 in
theorem C_81 {X : mm_X} {d : Nat} {M : mm_M} {Q : Option Value → mm_M → Prop} {f : Int32} {n : Int32} (hX : g_X X) (hd : 1 ≤ d) (hG : g_G M) (q1 : 0 ≤ f.toInt) (q2 : f.toInt ≤ 500) (q3 : 0 ≤ n.toInt) (q4 : n.toInt ≤ 500) (h : ∀ (r : Int32) (M1 : mm_M), g_G M1 → FR md_t M M1 → (f.toInt ≤ r.toInt) → (r.toInt ≤ 500) → Q (some (.int r)) M1) : mm_T X d 81 0 [.ref 1, .int f, .int n, .null, .null] [] M Q := by
  have F0 : FR md_t M M := FR.rf
  refine to_c (pc := 0) rw_81_0 (x := (0 : Int32)) rfl rfl (to_isn (pc := 1) rw_81_1 (ls2 := [.ref 1, .int f, .int n, .int (0 : Int32), .null]) rfl rfl (to_in (pc := 2) rw_81_2 rfl (to_is (pc := 3) rw_81_3 (ls2 := [.ref 1, .int f, .int n, .int (0 : Int32), .int f]) rfl rfl ?_)))
  have k_42 : (0 : Int32).toInt = 0 := rfl
  exact (T_81_0 (f := f) (n := n) hX hd q1 q2 q3 q4 h ((500 - f.toInt).toNat + 1)) M (0 : Int32) f hG F0 (by omega) (by omega) (by omega) (by omega) (by omega) (by omega) (by omega) (by omega) (by omega)
set_option maxRecDepth 4000 in
set_option maxHeartbeats 0 in
theorem T_79_0 {X : mm_X} {d : Nat} {M : mm_M} {Q : Option Value → mm_M → Prop} {n : Int32} (hX : g_X X) (hd : 2 ≤ d) (q1 : 0 ≤ n.toInt) (q2 : n.toInt ≤ 500) (h : ∀ (M1 : mm_M), g_G M1 → FR md_t M M1 → (1 ≤ (M1.2.1 1 5).toInt) → Q (none) M1) : ∀ nn9 : Nat, (∀ (N : mm_M) (x2 : Int32) (u3 : Value) (u4 : Value), g_G N → FR md_t M N → (0 ≤ x2.toInt) → (x2.toInt ≤ 500) → (0 ≤ n.toInt) → (n.toInt ≤ 500) → 500 - x2.toInt < (nn9 : Int) → mm_T X d 79 7 [.ref 1, .int n, .int x2, u3, u4] [] N Q) := by
  intro nn9
  induction nn9 with
  | zero =>
    intro N x2 u3 u4 hG F0 g1 g2 g3 g4 hm
    exfalso; omega
  | succ nn9 ih =>
    intro N x2 u3 u4 hG F0 g1 g2 g3 g4 hm
    refine to_in (pc := 7) rw_79_7 rfl (to_in (pc := 8) rw_79_8 rfl (b_cge (pc := 9) rw_79_9 (A := x2.toInt) (B := n.toInt) rfl rfl (fun h1 => ?_) (fun h1 => ?_)))
    · refine to_an (pc := 96) rw_79_96 rfl (to_c (pc := 97) rw_79_97 (x := (0 : Int32)) rfl rfl (to_c (pc := 98) rw_79_98 (x := (0 : Int32)) rfl rfl (to_in (pc := 99) rw_79_99 rfl (s_v (pc := 100) rw_79_100 (dp0 hd (by decide)) (ls0 := [.ref 1, .int (0 : Int32), .int (0 : Int32), .int n]) rfl (Nat.le_of_ble_eq_true rfl) (Nat.le_of_ble_eq_true rfl) rfl (to_rc rfl rfl rfl (g_o hG rfl)) rfl ?_))))
      have k_2 : (0 : Int32).toInt = 0 := rfl
      refine C_82 hX (dp1 hd (by decide)) hG (t := (0 : Int32)) (v := (0 : Int32)) (w := n) (fun M6 hG4 F3 p_5 => ?_)
      have F7 := FR.c F0 F3 tg_110
      have b_8 := g_b hG4 (a := 1) (i := 5) (lo := 0) (hi := 501) rfl rfl
      refine to_rv (pc := 103) rw_79_103 ?_
      exact h M6 hG4 F7 (by omega)
    · refine to_an (pc := 12) rw_79_12 rfl (to_in (pc := 13) rw_79_13 rfl (s_v (pc := 14) rw_79_14 (dp0 hd (by decide)) (ls0 := [.ref 1, .int x2]) rfl (Nat.le_of_ble_eq_true rfl) (Nat.le_of_ble_eq_true rfl) rfl (to_rc rfl rfl rfl (g_o hG rfl)) rfl (to_in (pc := 0) rw_91_0 rfl (b_ilt_f (pc := 1) rw_91_1 (A := x2.toInt) rfl (by omega) (to_in (pc := 4) rw_91_4 rfl (to_an (pc := 5) rw_91_5 rfl (s_gR (pc := 6) rw_91_6 hG rfl (v := 2) rfl (s_len (pc := 9) rw_91_9 hG rfl rfl (n := 500) rfl (v := (500 : Int32)) rfl (b_cge_f (pc := 10) rw_91_10 (A := x2.toInt) (B := 500) rfl rfl (by omega) (to_an (pc := 13) rw_91_13 rfl (s_gR (pc := 14) rw_91_14 hG rfl (v := 2) rfl ?_)))))))))))
      refine to_in (pc := 17) rw_91_17 rfl (s_bal (pc := 18) rw_91_18 hG rfl (n := 500) rfl (A := x2.toInt) rfl (by omega) (by omega) (lo := -2147483648) (hi := 2147483647) rfl rfl (fun v9 w_10 _ _ => to_c (pc := 19) rw_91_19 (x := (255 : Int32)) rfl rfl (s_and (pc := 22) rw_91_22 (B := 255) rfl (by omega) (fun v11 e12 _ _ => to_go (pc := 23) rw_91_23 (to_r0 (pc := 27) rw_91_27 (to_isn (pc := 17) rw_79_17 (ls2 := [.ref 1, .int n, .int x2, .int v11, u4]) rfl rfl (to_in (pc := 18) rw_79_18 rfl (to_c (pc := 19) rw_79_19 (x := (1 : Int32)) rfl rfl (s_add (pc := 20) rw_79_20 (A := x2.toInt) (B := 1) rfl rfl (by omega) (fun v13 e14 => to_is (pc := 21) rw_79_21 (ls2 := [.ref 1, .int n, .int x2, .int v11, .int v13]) rfl rfl (to_in (pc := 23) rw_79_23 rfl ?_)))))))))))
      refine s_s (pc := 24) rw_79_24 (dp0 hd (by decide)) (ls0 := [.int v11]) rfl (Nat.le_of_ble_eq_true rfl) (Nat.le_of_ble_eq_true rfl) rfl (to_rcs rfl rfl) rfl (to_in (pc := 0) rw_93_0 rfl (to_c (pc := 1) rw_93_1 (x := (97 : Int32)) rfl rfl (b_clt (pc := 3) rw_93_3 (A := v11.toInt) (B := 97) rfl rfl (fun h15 => ?_) (fun h15 => ?_))))
      · refine to_c (pc := 16) rw_93_16 (x := (0 : Int32)) rfl rfl (s_r1 (pc := 17) rw_93_17 (A := 0) rfl (by decide) (b_ieq_t (pc := 27) rw_79_27 (A := 0) rfl (by decide) (to_in (pc := 41) rw_79_41 rfl (s_s (pc := 42) rw_79_42 (dp0 hd (by decide)) (ls0 := [.int v11]) rfl (Nat.le_of_ble_eq_true rfl) (Nat.le_of_ble_eq_true rfl) rfl (to_rcs rfl rfl) rfl (to_in (pc := 0) rw_94_0 rfl (to_c (pc := 1) rw_94_1 (x := (48 : Int32)) rfl rfl (b_clt (pc := 3) rw_94_3 (A := v11.toInt) (B := 48) rfl rfl (fun h16 => ?_) (fun h16 => ?_))))))))
        · refine to_c (pc := 16) rw_94_16 (x := (0 : Int32)) rfl rfl (s_r1 (pc := 17) rw_94_17 (A := 0) rfl (by decide) (b_ieq_t (pc := 45) rw_79_45 (A := 0) rfl (by decide) (to_in (pc := 59) rw_79_59 rfl (s_s (pc := 60) rw_79_60 (dp0 hd (by decide)) (ls0 := [.int v11]) rfl (Nat.le_of_ble_eq_true rfl) (Nat.le_of_ble_eq_true rfl) rfl (to_rcs rfl rfl) rfl (to_in (pc := 0) rw_92_0 rfl (to_c (pc := 1) rw_92_1 (x := (10 : Int32)) rfl rfl (b_ceq (pc := 3) rw_92_3 (A := v11.toInt) (B := 10) rfl rfl (fun h17 => ?_) (fun h17 => ?_))))))))
          · refine to_c (pc := 12) rw_92_12 (x := (1 : Int32)) rfl rfl (to_go (pc := 13) rw_92_13 (s_r1 (pc := 17) rw_92_17 (A := 1) rfl (by decide) (b_ine_t (pc := 63) rw_79_63 (A := 1) rfl (by decide) (to_in (pc := 84) rw_79_84 rfl (to_c (pc := 85) rw_79_85 (x := (1 : Int32)) rfl rfl (s_add (pc := 86) rw_79_86 (A := x2.toInt) (B := 1) rfl rfl (by omega) (fun v18 e19 => to_i (pc := 87) rw_79_87 rfl (s_max (pc := 89) rw_79_89 rfl (A := v18.toInt) (B := v13.toInt) rfl rfl (fun v20 _ _ _ => to_isn (pc := 92) rw_79_92 (ls2 := [.ref 1, .int n, .int v20, .int v11, .int v13]) rfl rfl (to_go (pc := 93) rw_79_93 ?_))))))))))
            exact ih N v20 (.int v11) (.int v13) hG F0 (by omega) (by omega) (by omega) (by omega) (by omega)
          · refine to_in (pc := 6) rw_92_6 rfl (to_c (pc := 7) rw_92_7 (x := (32 : Int32)) rfl rfl (b_cne (pc := 9) rw_92_9 (A := v11.toInt) (B := 32) rfl rfl (fun h21 => ?_) (fun h21 => ?_)))
            · refine to_c (pc := 16) rw_92_16 (x := (0 : Int32)) rfl rfl (s_r1 (pc := 17) rw_92_17 (A := 0) rfl (by decide) (b_ine_f (pc := 63) rw_79_63 (A := 0) rfl (by decide) (to_an (pc := 66) rw_79_66 rfl (to_in (pc := 67) rw_79_67 rfl (s_s (pc := 68) rw_79_68 (dp0 hd (by decide)) (ls0 := [.int v11]) rfl (Nat.le_of_ble_eq_true rfl) (Nat.le_of_ble_eq_true rfl) rfl (to_rcs rfl rfl) rfl (to_in (pc := 0) rw_95_0 rfl (to_c (pc := 1) rw_95_1 (x := (59 : Int32)) rfl rfl (b_ceq_f (pc := 3) rw_95_3 (A := v11.toInt) (B := 59) rfl rfl (by omega) (to_in (pc := 6) rw_95_6 rfl (to_c (pc := 7) rw_95_7 (x := (40 : Int32)) rfl rfl (b_ceq (pc := 9) rw_95_9 (A := v11.toInt) (B := 40) rfl rfl (fun h22 => ?_) (fun h22 => ?_))))))))))))
              · refine to_c (pc := 24) rw_95_24 (x := (1 : Int32)) rfl rfl (to_go (pc := 25) rw_95_25 (s_r1 (pc := 29) rw_95_29 (A := 1) rfl (by decide) (b_ieq_f (pc := 71) rw_79_71 (A := 1) rfl (by decide) (to_in (pc := 74) rw_79_74 rfl (to_go (pc := 75) rw_79_75 (to_c (pc := 79) rw_79_79 (x := (0 : Int32)) rfl rfl (to_in (pc := 80) rw_79_80 rfl (s_v (pc := 81) rw_79_81 (dp0 hd (by decide)) (ls0 := [.ref 1, .int v11, .int (0 : Int32), .int x2]) rfl (Nat.le_of_ble_eq_true rfl) (Nat.le_of_ble_eq_true rfl) rfl (to_rc rfl rfl rfl (g_o hG rfl)) rfl ?_))))))))
                have k_23 : (0 : Int32).toInt = 0 := rfl
                refine C_82 hX (dp1 hd (by decide)) hG (t := v11) (v := (0 : Int32)) (w := x2) (fun M27 hG25 F24 p_26 => ?_)
                have F28 := FR.c F0 F24 tg_110
                have b_29 := g_b hG25 (a := 1) (i := 5) (lo := 0) (hi := 501) rfl rfl
                refine to_in (pc := 84) rw_79_84 rfl (to_c (pc := 85) rw_79_85 (x := (1 : Int32)) rfl rfl (s_add (pc := 86) rw_79_86 (A := x2.toInt) (B := 1) rfl rfl (by omega) (fun v30 e31 => to_i (pc := 87) rw_79_87 rfl (s_max (pc := 89) rw_79_89 rfl (A := v30.toInt) (B := v13.toInt) rfl rfl (fun v32 _ _ _ => to_isn (pc := 92) rw_79_92 (ls2 := [.ref 1, .int n, .int v32, .int v11, .int v13]) rfl rfl (to_go (pc := 93) rw_79_93 ?_))))))
                exact ih M27 v32 (.int v11) (.int v13) hG25 F28 (by omega) (by omega) (by omega) (by omega) (by omega)
              · refine to_in (pc := 12) rw_95_12 rfl (to_c (pc := 13) rw_95_13 (x := (41 : Int32)) rfl rfl (b_ceq (pc := 15) rw_95_15 (A := v11.toInt) (B := 41) rfl rfl (fun h33 => ?_) (fun h33 => ?_)))
                · refine to_c (pc := 24) rw_95_24 (x := (1 : Int32)) rfl rfl (to_go (pc := 25) rw_95_25 (s_r1 (pc := 29) rw_95_29 (A := 1) rfl (by decide) (b_ieq_f (pc := 71) rw_79_71 (A := 1) rfl (by decide) (to_in (pc := 74) rw_79_74 rfl (to_go (pc := 75) rw_79_75 (to_c (pc := 79) rw_79_79 (x := (0 : Int32)) rfl rfl (to_in (pc := 80) rw_79_80 rfl (s_v (pc := 81) rw_79_81 (dp0 hd (by decide)) (ls0 := [.ref 1, .int v11, .int (0 : Int32), .int x2]) rfl (Nat.le_of_ble_eq_true rfl) (Nat.le_of_ble_eq_true rfl) rfl (to_rc rfl rfl rfl (g_o hG rfl)) rfl ?_))))))))
                  have k_34 : (0 : Int32).toInt = 0 := rfl
                  refine C_82 hX (dp1 hd (by decide)) hG (t := v11) (v := (0 : Int32)) (w := x2) (fun M38 hG36 F35 p_37 => ?_)
                  have F39 := FR.c F0 F35 tg_110
                  have b_40 := g_b hG36 (a := 1) (i := 5) (lo := 0) (hi := 501) rfl rfl
                  refine to_in (pc := 84) rw_79_84 rfl (to_c (pc := 85) rw_79_85 (x := (1 : Int32)) rfl rfl (s_add (pc := 86) rw_79_86 (A := x2.toInt) (B := 1) rfl rfl (by omega) (fun v41 e42 => to_i (pc := 87) rw_79_87 rfl (s_max (pc := 89) rw_79_89 rfl (A := v41.toInt) (B := v13.toInt) rfl rfl (fun v43 _ _ _ => to_isn (pc := 92) rw_79_92 (ls2 := [.ref 1, .int n, .int v43, .int v11, .int v13]) rfl rfl (to_go (pc := 93) rw_79_93 ?_))))))
                  exact ih M38 v43 (.int v11) (.int v13) hG36 F39 (by omega) (by omega) (by omega) (by omega) (by omega)
                · refine to_in (pc := 18) rw_95_18 rfl (to_c (pc := 19) rw_95_19 (x := (61 : Int32)) rfl rfl (b_cne_t (pc := 21) rw_95_21 (A := v11.toInt) (B := 61) rfl rfl (by omega) (to_c (pc := 28) rw_95_28 (x := (0 : Int32)) rfl rfl (s_r1 (pc := 29) rw_95_29 (A := 0) rfl (by decide) (b_ieq_t (pc := 71) rw_79_71 (A := 0) rfl (by decide) (to_c (pc := 78) rw_79_78 (x := (1 : Int32)) rfl rfl (to_c (pc := 79) rw_79_79 (x := (0 : Int32)) rfl rfl (to_in (pc := 80) rw_79_80 rfl (s_v (pc := 81) rw_79_81 (dp0 hd (by decide)) (ls0 := [.ref 1, .int (1 : Int32), .int (0 : Int32), .int x2]) rfl (Nat.le_of_ble_eq_true rfl) (Nat.le_of_ble_eq_true rfl) rfl (to_rc rfl rfl rfl (g_o hG rfl)) rfl ?_)))))))))
                  have k_44 : (1 : Int32).toInt = 1 := rfl
                  have k_45 : (0 : Int32).toInt = 0 := rfl
                  refine C_82 hX (dp1 hd (by decide)) hG (t := (1 : Int32)) (v := (0 : Int32)) (w := x2) (fun M49 hG47 F46 p_48 => ?_)
                  have F50 := FR.c F0 F46 tg_110
                  have b_51 := g_b hG47 (a := 1) (i := 5) (lo := 0) (hi := 501) rfl rfl
                  refine to_in (pc := 84) rw_79_84 rfl (to_c (pc := 85) rw_79_85 (x := (1 : Int32)) rfl rfl (s_add (pc := 86) rw_79_86 (A := x2.toInt) (B := 1) rfl rfl (by omega) (fun v52 e53 => to_i (pc := 87) rw_79_87 rfl (s_max (pc := 89) rw_79_89 rfl (A := v52.toInt) (B := v13.toInt) rfl rfl (fun v54 _ _ _ => to_isn (pc := 92) rw_79_92 (ls2 := [.ref 1, .int n, .int v54, .int v11, .int v13]) rfl rfl (to_go (pc := 93) rw_79_93 ?_))))))
                  exact ih M49 v54 (.int v11) (.int v13) hG47 F50 (by omega) (by omega) (by omega) (by omega) (by omega)
            · refine to_c (pc := 12) rw_92_12 (x := (1 : Int32)) rfl rfl (to_go (pc := 13) rw_92_13 (s_r1 (pc := 17) rw_92_17 (A := 1) rfl (by decide) (b_ine_t (pc := 63) rw_79_63 (A := 1) rfl (by decide) (to_in (pc := 84) rw_79_84 rfl (to_c (pc := 85) rw_79_85 (x := (1 : Int32)) rfl rfl (s_add (pc := 86) rw_79_86 (A := x2.toInt) (B := 1) rfl rfl (by omega) (fun v55 e56 => to_i (pc := 87) rw_79_87 rfl (s_max (pc := 89) rw_79_89 rfl (A := v55.toInt) (B := v13.toInt) rfl rfl (fun v57 _ _ _ => to_isn (pc := 92) rw_79_92 (ls2 := [.ref 1, .int n, .int v57, .int v11, .int v13]) rfl rfl (to_go (pc := 93) rw_79_93 ?_))))))))))
              exact ih N v57 (.int v11) (.int v13) hG F0 (by omega) (by omega) (by omega) (by omega) (by omega)
        · refine to_in (pc := 6) rw_94_6 rfl (to_c (pc := 7) rw_94_7 (x := (57 : Int32)) rfl rfl (b_cgt (pc := 9) rw_94_9 (A := v11.toInt) (B := 57) rfl rfl (fun h58 => ?_) (fun h58 => ?_)))
          · refine to_c (pc := 16) rw_94_16 (x := (0 : Int32)) rfl rfl (s_r1 (pc := 17) rw_94_17 (A := 0) rfl (by decide) (b_ieq_t (pc := 45) rw_79_45 (A := 0) rfl (by decide) (to_in (pc := 59) rw_79_59 rfl (s_s (pc := 60) rw_79_60 (dp0 hd (by decide)) (ls0 := [.int v11]) rfl (Nat.le_of_ble_eq_true rfl) (Nat.le_of_ble_eq_true rfl) rfl (to_rcs rfl rfl) rfl (to_in (pc := 0) rw_92_0 rfl (to_c (pc := 1) rw_92_1 (x := (10 : Int32)) rfl rfl (b_ceq_f (pc := 3) rw_92_3 (A := v11.toInt) (B := 10) rfl rfl (by omega) (to_in (pc := 6) rw_92_6 rfl (to_c (pc := 7) rw_92_7 (x := (32 : Int32)) rfl rfl (b_cne_t (pc := 9) rw_92_9 (A := v11.toInt) (B := 32) rfl rfl (by omega) (to_c (pc := 16) rw_92_16 (x := (0 : Int32)) rfl rfl ?_)))))))))))
            refine s_r1 (pc := 17) rw_92_17 (A := 0) rfl (by decide) (b_ine_f (pc := 63) rw_79_63 (A := 0) rfl (by decide) (to_an (pc := 66) rw_79_66 rfl (to_in (pc := 67) rw_79_67 rfl (s_s (pc := 68) rw_79_68 (dp0 hd (by decide)) (ls0 := [.int v11]) rfl (Nat.le_of_ble_eq_true rfl) (Nat.le_of_ble_eq_true rfl) rfl (to_rcs rfl rfl) rfl (to_in (pc := 0) rw_95_0 rfl (to_c (pc := 1) rw_95_1 (x := (59 : Int32)) rfl rfl (b_ceq (pc := 3) rw_95_3 (A := v11.toInt) (B := 59) rfl rfl (fun h59 => ?_) (fun h59 => ?_))))))))
            · refine to_c (pc := 24) rw_95_24 (x := (1 : Int32)) rfl rfl (to_go (pc := 25) rw_95_25 (s_r1 (pc := 29) rw_95_29 (A := 1) rfl (by decide) (b_ieq_f (pc := 71) rw_79_71 (A := 1) rfl (by decide) (to_in (pc := 74) rw_79_74 rfl (to_go (pc := 75) rw_79_75 (to_c (pc := 79) rw_79_79 (x := (0 : Int32)) rfl rfl (to_in (pc := 80) rw_79_80 rfl (s_v (pc := 81) rw_79_81 (dp0 hd (by decide)) (ls0 := [.ref 1, .int v11, .int (0 : Int32), .int x2]) rfl (Nat.le_of_ble_eq_true rfl) (Nat.le_of_ble_eq_true rfl) rfl (to_rc rfl rfl rfl (g_o hG rfl)) rfl ?_))))))))
              have k_60 : (0 : Int32).toInt = 0 := rfl
              refine C_82 hX (dp1 hd (by decide)) hG (t := v11) (v := (0 : Int32)) (w := x2) (fun M64 hG62 F61 p_63 => ?_)
              have F65 := FR.c F0 F61 tg_110
              have b_66 := g_b hG62 (a := 1) (i := 5) (lo := 0) (hi := 501) rfl rfl
              refine to_in (pc := 84) rw_79_84 rfl (to_c (pc := 85) rw_79_85 (x := (1 : Int32)) rfl rfl (s_add (pc := 86) rw_79_86 (A := x2.toInt) (B := 1) rfl rfl (by omega) (fun v67 e68 => to_i (pc := 87) rw_79_87 rfl (s_max (pc := 89) rw_79_89 rfl (A := v67.toInt) (B := v13.toInt) rfl rfl (fun v69 _ _ _ => to_isn (pc := 92) rw_79_92 (ls2 := [.ref 1, .int n, .int v69, .int v11, .int v13]) rfl rfl (to_go (pc := 93) rw_79_93 ?_))))))
              exact ih M64 v69 (.int v11) (.int v13) hG62 F65 (by omega) (by omega) (by omega) (by omega) (by omega)
            · refine to_in (pc := 6) rw_95_6 rfl (to_c (pc := 7) rw_95_7 (x := (40 : Int32)) rfl rfl (b_ceq_f (pc := 9) rw_95_9 (A := v11.toInt) (B := 40) rfl rfl (by omega) (to_in (pc := 12) rw_95_12 rfl (to_c (pc := 13) rw_95_13 (x := (41 : Int32)) rfl rfl (b_ceq_f (pc := 15) rw_95_15 (A := v11.toInt) (B := 41) rfl rfl (by omega) (to_in (pc := 18) rw_95_18 rfl (to_c (pc := 19) rw_95_19 (x := (61 : Int32)) rfl rfl (b_cne (pc := 21) rw_95_21 (A := v11.toInt) (B := 61) rfl rfl (fun h70 => ?_) (fun h70 => ?_)))))))))
              · refine to_c (pc := 28) rw_95_28 (x := (0 : Int32)) rfl rfl (s_r1 (pc := 29) rw_95_29 (A := 0) rfl (by decide) (b_ieq_t (pc := 71) rw_79_71 (A := 0) rfl (by decide) (to_c (pc := 78) rw_79_78 (x := (1 : Int32)) rfl rfl (to_c (pc := 79) rw_79_79 (x := (0 : Int32)) rfl rfl (to_in (pc := 80) rw_79_80 rfl (s_v (pc := 81) rw_79_81 (dp0 hd (by decide)) (ls0 := [.ref 1, .int (1 : Int32), .int (0 : Int32), .int x2]) rfl (Nat.le_of_ble_eq_true rfl) (Nat.le_of_ble_eq_true rfl) rfl (to_rc rfl rfl rfl (g_o hG rfl)) rfl ?_))))))
                have k_71 : (1 : Int32).toInt = 1 := rfl
                have k_72 : (0 : Int32).toInt = 0 := rfl
                refine C_82 hX (dp1 hd (by decide)) hG (t := (1 : Int32)) (v := (0 : Int32)) (w := x2) (fun M76 hG74 F73 p_75 => ?_)
                have F77 := FR.c F0 F73 tg_110
                have b_78 := g_b hG74 (a := 1) (i := 5) (lo := 0) (hi := 501) rfl rfl
                refine to_in (pc := 84) rw_79_84 rfl (to_c (pc := 85) rw_79_85 (x := (1 : Int32)) rfl rfl (s_add (pc := 86) rw_79_86 (A := x2.toInt) (B := 1) rfl rfl (by omega) (fun v79 e80 => to_i (pc := 87) rw_79_87 rfl (s_max (pc := 89) rw_79_89 rfl (A := v79.toInt) (B := v13.toInt) rfl rfl (fun v81 _ _ _ => to_isn (pc := 92) rw_79_92 (ls2 := [.ref 1, .int n, .int v81, .int v11, .int v13]) rfl rfl (to_go (pc := 93) rw_79_93 ?_))))))
                exact ih M76 v81 (.int v11) (.int v13) hG74 F77 (by omega) (by omega) (by omega) (by omega) (by omega)
              · refine to_c (pc := 24) rw_95_24 (x := (1 : Int32)) rfl rfl (to_go (pc := 25) rw_95_25 (s_r1 (pc := 29) rw_95_29 (A := 1) rfl (by decide) (b_ieq_f (pc := 71) rw_79_71 (A := 1) rfl (by decide) (to_in (pc := 74) rw_79_74 rfl (to_go (pc := 75) rw_79_75 (to_c (pc := 79) rw_79_79 (x := (0 : Int32)) rfl rfl (to_in (pc := 80) rw_79_80 rfl (s_v (pc := 81) rw_79_81 (dp0 hd (by decide)) (ls0 := [.ref 1, .int v11, .int (0 : Int32), .int x2]) rfl (Nat.le_of_ble_eq_true rfl) (Nat.le_of_ble_eq_true rfl) rfl (to_rc rfl rfl rfl (g_o hG rfl)) rfl ?_))))))))
                have k_82 : (0 : Int32).toInt = 0 := rfl
                refine C_82 hX (dp1 hd (by decide)) hG (t := v11) (v := (0 : Int32)) (w := x2) (fun M86 hG84 F83 p_85 => ?_)
                have F87 := FR.c F0 F83 tg_110
                have b_88 := g_b hG84 (a := 1) (i := 5) (lo := 0) (hi := 501) rfl rfl
                refine to_in (pc := 84) rw_79_84 rfl (to_c (pc := 85) rw_79_85 (x := (1 : Int32)) rfl rfl (s_add (pc := 86) rw_79_86 (A := x2.toInt) (B := 1) rfl rfl (by omega) (fun v89 e90 => to_i (pc := 87) rw_79_87 rfl (s_max (pc := 89) rw_79_89 rfl (A := v89.toInt) (B := v13.toInt) rfl rfl (fun v91 _ _ _ => to_isn (pc := 92) rw_79_92 (ls2 := [.ref 1, .int n, .int v91, .int v11, .int v13]) rfl rfl (to_go (pc := 93) rw_79_93 ?_))))))
                exact ih M86 v91 (.int v11) (.int v13) hG84 F87 (by omega) (by omega) (by omega) (by omega) (by omega)
          · refine to_c (pc := 12) rw_94_12 (x := (1 : Int32)) rfl rfl (to_go (pc := 13) rw_94_13 (s_r1 (pc := 17) rw_94_17 (A := 1) rfl (by decide) (b_ieq_f (pc := 45) rw_79_45 (A := 1) rfl (by decide) (to_an (pc := 48) rw_79_48 rfl (to_in (pc := 49) rw_79_49 rfl (to_in (pc := 50) rw_79_50 rfl (s_v (pc := 51) rw_79_51 (dp0 hd (by decide)) (ls0 := [.ref 1, .int x2, .int n, .null, .null]) rfl (Nat.le_of_ble_eq_true rfl) (Nat.le_of_ble_eq_true rfl) rfl (to_rc rfl rfl rfl (g_o hG rfl)) rfl (C_81 hX (dp1 hd (by decide)) hG (by omega) (by omega) (by omega) (by omega) (f := x2) (n := n) (fun r92 M97 hG94 F93 p_95 p_96 => ?_)))))))))
            have F98 := FR.c F0 F93 tg_110
            refine to_is (pc := 54) rw_79_54 (ls2 := [.ref 1, .int n, .int x2, .int v11, .int r92]) rfl rfl (to_go (pc := 56) rw_79_56 (to_in (pc := 84) rw_79_84 rfl (to_c (pc := 85) rw_79_85 (x := (1 : Int32)) rfl rfl (s_add (pc := 86) rw_79_86 (A := x2.toInt) (B := 1) rfl rfl (by omega) (fun v99 e100 => to_i (pc := 87) rw_79_87 rfl (s_max (pc := 89) rw_79_89 rfl (A := v99.toInt) (B := r92.toInt) rfl rfl (fun v101 _ _ _ => to_isn (pc := 92) rw_79_92 (ls2 := [.ref 1, .int n, .int v101, .int v11, .int r92]) rfl rfl (to_go (pc := 93) rw_79_93 ?_))))))))
            exact ih M97 v101 (.int v11) (.int r92) hG94 F98 (by omega) (by omega) (by omega) (by omega) (by omega)
      · refine to_in (pc := 6) rw_93_6 rfl (to_c (pc := 7) rw_93_7 (x := (122 : Int32)) rfl rfl (b_cgt (pc := 9) rw_93_9 (A := v11.toInt) (B := 122) rfl rfl (fun h102 => ?_) (fun h102 => ?_)))
        · refine to_c (pc := 16) rw_93_16 (x := (0 : Int32)) rfl rfl (s_r1 (pc := 17) rw_93_17 (A := 0) rfl (by decide) (b_ieq_t (pc := 27) rw_79_27 (A := 0) rfl (by decide) (to_in (pc := 41) rw_79_41 rfl (s_s (pc := 42) rw_79_42 (dp0 hd (by decide)) (ls0 := [.int v11]) rfl (Nat.le_of_ble_eq_true rfl) (Nat.le_of_ble_eq_true rfl) rfl (to_rcs rfl rfl) rfl (to_in (pc := 0) rw_94_0 rfl (to_c (pc := 1) rw_94_1 (x := (48 : Int32)) rfl rfl (b_clt_f (pc := 3) rw_94_3 (A := v11.toInt) (B := 48) rfl rfl (by omega) (to_in (pc := 6) rw_94_6 rfl (to_c (pc := 7) rw_94_7 (x := (57 : Int32)) rfl rfl (b_cgt_t (pc := 9) rw_94_9 (A := v11.toInt) (B := 57) rfl rfl (by omega) (to_c (pc := 16) rw_94_16 (x := (0 : Int32)) rfl rfl ?_)))))))))))
          refine s_r1 (pc := 17) rw_94_17 (A := 0) rfl (by decide) (b_ieq_t (pc := 45) rw_79_45 (A := 0) rfl (by decide) (to_in (pc := 59) rw_79_59 rfl (s_s (pc := 60) rw_79_60 (dp0 hd (by decide)) (ls0 := [.int v11]) rfl (Nat.le_of_ble_eq_true rfl) (Nat.le_of_ble_eq_true rfl) rfl (to_rcs rfl rfl) rfl (to_in (pc := 0) rw_92_0 rfl (to_c (pc := 1) rw_92_1 (x := (10 : Int32)) rfl rfl (b_ceq_f (pc := 3) rw_92_3 (A := v11.toInt) (B := 10) rfl rfl (by omega) (to_in (pc := 6) rw_92_6 rfl (to_c (pc := 7) rw_92_7 (x := (32 : Int32)) rfl rfl (b_cne_t (pc := 9) rw_92_9 (A := v11.toInt) (B := 32) rfl rfl (by omega) (to_c (pc := 16) rw_92_16 (x := (0 : Int32)) rfl rfl (s_r1 (pc := 17) rw_92_17 (A := 0) rfl (by decide) ?_)))))))))))
          refine b_ine_f (pc := 63) rw_79_63 (A := 0) rfl (by decide) (to_an (pc := 66) rw_79_66 rfl (to_in (pc := 67) rw_79_67 rfl (s_s (pc := 68) rw_79_68 (dp0 hd (by decide)) (ls0 := [.int v11]) rfl (Nat.le_of_ble_eq_true rfl) (Nat.le_of_ble_eq_true rfl) rfl (to_rcs rfl rfl) rfl (to_in (pc := 0) rw_95_0 rfl (to_c (pc := 1) rw_95_1 (x := (59 : Int32)) rfl rfl (b_ceq_f (pc := 3) rw_95_3 (A := v11.toInt) (B := 59) rfl rfl (by omega) (to_in (pc := 6) rw_95_6 rfl (to_c (pc := 7) rw_95_7 (x := (40 : Int32)) rfl rfl (b_ceq_f (pc := 9) rw_95_9 (A := v11.toInt) (B := 40) rfl rfl (by omega) (to_in (pc := 12) rw_95_12 rfl (to_c (pc := 13) rw_95_13 (x := (41 : Int32)) rfl rfl ?_)))))))))))
          refine b_ceq_f (pc := 15) rw_95_15 (A := v11.toInt) (B := 41) rfl rfl (by omega) (to_in (pc := 18) rw_95_18 rfl (to_c (pc := 19) rw_95_19 (x := (61 : Int32)) rfl rfl (b_cne_t (pc := 21) rw_95_21 (A := v11.toInt) (B := 61) rfl rfl (by omega) (to_c (pc := 28) rw_95_28 (x := (0 : Int32)) rfl rfl (s_r1 (pc := 29) rw_95_29 (A := 0) rfl (by decide) (b_ieq_t (pc := 71) rw_79_71 (A := 0) rfl (by decide) (to_c (pc := 78) rw_79_78 (x := (1 : Int32)) rfl rfl (to_c (pc := 79) rw_79_79 (x := (0 : Int32)) rfl rfl (to_in (pc := 80) rw_79_80 rfl (s_v (pc := 81) rw_79_81 (dp0 hd (by decide)) (ls0 := [.ref 1, .int (1 : Int32), .int (0 : Int32), .int x2]) rfl (Nat.le_of_ble_eq_true rfl) (Nat.le_of_ble_eq_true rfl) rfl (to_rc rfl rfl rfl (g_o hG rfl)) rfl ?_))))))))))
          have k_103 : (1 : Int32).toInt = 1 := rfl
          have k_104 : (0 : Int32).toInt = 0 := rfl
          refine C_82 hX (dp1 hd (by decide)) hG (t := (1 : Int32)) (v := (0 : Int32)) (w := x2) (fun M108 hG106 F105 p_107 => ?_)
          have F109 := FR.c F0 F105 tg_110
          have b_110 := g_b hG106 (a := 1) (i := 5) (lo := 0) (hi := 501) rfl rfl
          refine to_in (pc := 84) rw_79_84 rfl (to_c (pc := 85) rw_79_85 (x := (1 : Int32)) rfl rfl (s_add (pc := 86) rw_79_86 (A := x2.toInt) (B := 1) rfl rfl (by omega) (fun v111 e112 => to_i (pc := 87) rw_79_87 rfl (s_max (pc := 89) rw_79_89 rfl (A := v111.toInt) (B := v13.toInt) rfl rfl (fun v113 _ _ _ => to_isn (pc := 92) rw_79_92 (ls2 := [.ref 1, .int n, .int v113, .int v11, .int v13]) rfl rfl (to_go (pc := 93) rw_79_93 ?_))))))
          exact ih M108 v113 (.int v11) (.int v13) hG106 F109 (by omega) (by omega) (by omega) (by omega) (by omega)
        · refine to_c (pc := 12) rw_93_12 (x := (1 : Int32)) rfl rfl (to_go (pc := 13) rw_93_13 (s_r1 (pc := 17) rw_93_17 (A := 1) rfl (by decide) (b_ieq_f (pc := 27) rw_79_27 (A := 1) rfl (by decide) (to_an (pc := 30) rw_79_30 rfl (to_in (pc := 31) rw_79_31 rfl (to_in (pc := 32) rw_79_32 rfl (s_v (pc := 33) rw_79_33 (dp0 hd (by decide)) (ls0 := [.ref 1, .int x2, .int n, .null, .null]) rfl (Nat.le_of_ble_eq_true rfl) (Nat.le_of_ble_eq_true rfl) rfl (to_rc rfl rfl rfl (g_o hG rfl)) rfl (C_80 hX (dp1 hd (by decide)) hG (by omega) (by omega) (by omega) (by omega) (f := x2) (n := n) (fun r114 M119 hG116 F115 p_117 p_118 => ?_)))))))))
          have F120 := FR.c F0 F115 tg_110
          refine to_is (pc := 36) rw_79_36 (ls2 := [.ref 1, .int n, .int x2, .int v11, .int r114]) rfl rfl (to_go (pc := 38) rw_79_38 (to_in (pc := 84) rw_79_84 rfl (to_c (pc := 85) rw_79_85 (x := (1 : Int32)) rfl rfl (s_add (pc := 86) rw_79_86 (A := x2.toInt) (B := 1) rfl rfl (by omega) (fun v121 e122 => to_i (pc := 87) rw_79_87 rfl (s_max (pc := 89) rw_79_89 rfl (A := v121.toInt) (B := r114.toInt) rfl rfl (fun v123 _ _ _ => to_isn (pc := 92) rw_79_92 (ls2 := [.ref 1, .int n, .int v123, .int v11, .int r114]) rfl rfl (to_go (pc := 93) rw_79_93 ?_))))))))
          exact ih M119 v123 (.int v11) (.int r114) hG116 F120 (by omega) (by omega) (by omega) (by omega) (by omega)
set_option maxRecDepth 4000 in
set_option maxHeartbeats 0 in
theorem C_79 {X : mm_X} {d : Nat} {M : mm_M} {Q : Option Value → mm_M → Prop} {n : Int32} (hX : g_X X) (hd : 2 ≤ d) (hG : g_G M) (q1 : 0 ≤ n.toInt) (q2 : n.toInt ≤ 500) (h : ∀ (M1 : mm_M), g_G M1 → FR md_t M M1 → (1 ≤ (M1.2.1 1 5).toInt) → Q (none) M1) : mm_T X d 79 0 [.ref 1, .int n, .null, .null, .null] [] M Q := by
  have F0 : FR md_t M M := FR.rf
  refine to_an (pc := 0) rw_79_0 rfl (to_c (pc := 1) rw_79_1 (x := (0 : Int32)) rfl rfl (s_pI (pc := 2) rw_79_2 hG rfl (fun M125 W124 => ?_)))
  have hG126 := g_w hG W124 (A := 0) rfl (lo := 0) (hi := 501) rfl rfl (by omega) (by decide)
  have F127 := FR.w F0 W124 (show 1 = 1 ∧ 5 ≤ 5 ∨ 3 ≤ 1 ∧ 1 ≤ 5 by decide)
  refine to_c (pc := 5) rw_79_5 (x := (0 : Int32)) rfl rfl (to_isn (pc := 6) rw_79_6 (ls2 := [.ref 1, .int n, .int (0 : Int32), .null, .null]) rfl rfl ?_)
  have k_128 : (0 : Int32).toInt = 0 := rfl
  exact (T_79_0 (n := n) hX hd q1 q2 h ((500 - (0 : Int32).toInt).toNat + 1)) M125 (0 : Int32) (.null) (.null) hG126 F127 (by omega) (by omega) (by omega) (by omega) (by omega)
set_option maxRecDepth 4000 in
set_option maxHeartbeats 0 in
theorem C_78 {X : mm_X} {d : Nat} {M : mm_M} {Q : Option Value → mm_M → Prop} {n : Int32} (hX : g_X X) (hd : 3 ≤ d) (hG : g_G M) (h : ∀ (r : Int32) (M1 : mm_M), g_G M1 → FR md_bg M M1 → (0 ≤ r.toInt) → (r.toInt ≤ 1) → (n.toInt < 0 ∨ (M.2.1 1 1).toInt < n.toInt → (M1.2.1 1 1).toInt = (M.2.1 1 1).toInt ∧ r.toInt = 0) → (0 ≤ n.toInt ∧ n.toInt ≤ (M.2.1 1 1).toInt → (M1.2.1 1 1).toInt = 0 ∧ r.toInt = 1) → Q (some (.int r)) M1) : mm_T X d 78 0 [.ref 1, .int n] [] M Q := by
  have F0 : FR md_bg M M := FR.rf
  refine to_in (pc := 0) rw_78_0 rfl (b_ilt (pc := 1) rw_78_1 (A := n.toInt) rfl (fun h1 => ?_) (fun h1 => ?_))
  · refine to_c (pc := 12) rw_78_12 (x := (0 : Int32)) rfl rfl (s_r1 (pc := 13) rw_78_13 (A := 0) rfl (by decide) ?_)
    have k_2 : (0 : Int32).toInt = 0 := rfl
    have b_3 := g_b hG (a := 1) (i := 1) (lo := 0) (hi := 500) rfl rfl
    exact h (0 : Int32) M hG F0 (by decide) (by decide) (by omega) (by omega)
  · refine to_in (pc := 4) rw_78_4 rfl (to_an (pc := 5) rw_78_5 rfl ?_)
    have b_4 := g_b hG (a := 1) (i := 1) (lo := 0) (hi := 500) rfl rfl
    refine tt_gI (pc := 6) rw_78_6 (g_o hG rfl) (v := (M.2.1 1 1)) rfl (b_cle (pc := 9) rw_78_9 (A := n.toInt) (B := (M.2.1 1 1).toInt) rfl rfl (fun h5 => ?_) (fun h5 => ?_))
    · refine to_an (pc := 14) rw_78_14 rfl (to_c (pc := 15) rw_78_15 (x := (0 : Int32)) rfl rfl (s_pI (pc := 16) rw_78_16 hG rfl (fun M7 W6 => ?_)))
      have hG8 := g_w hG W6 (A := 0) rfl (lo := 0) (hi := 500) rfl rfl (by omega) (by decide)
      have F9 := FR.w F0 W6 (show 1 = 1 ∨ 3 ≤ 1 ∧ 1 ≤ 5 by decide)
      refine to_an (pc := 19) rw_78_19 rfl (to_c (pc := 20) rw_78_20 (x := (0 : Int32)) rfl rfl (s_pI (pc := 21) rw_78_21 hG8 rfl (fun M11 W10 => ?_)))
      have hG12 := g_wf hG8 W10 rfl rfl (by decide)
      have F13 := FR.w F9 W10 (show 1 = 1 ∨ 3 ≤ 1 ∧ 1 ≤ 5 by decide)
      refine to_an (pc := 24) rw_78_24 rfl (to_c (pc := 25) rw_78_25 (x := (-1 : Int32)) rfl rfl (s_pI (pc := 26) rw_78_26 hG12 rfl (fun M15 W14 => ?_)))
      have hG16 := g_wf hG12 W14 rfl rfl (by decide)
      have F17 := FR.w F13 W14 (show 1 = 1 ∨ 3 ≤ 1 ∧ 1 ≤ 5 by decide)
      refine to_an (pc := 29) rw_78_29 rfl (to_in (pc := 30) rw_78_30 rfl (s_v (pc := 31) rw_78_31 (dp0 hd (by decide)) (ls0 := [.ref 1, .int n, .null, .null, .null]) rfl (Nat.le_of_ble_eq_true rfl) (Nat.le_of_ble_eq_true rfl) rfl (to_rc rfl rfl rfl (g_o hG16 rfl)) rfl (C_79 hX (dp1 hd (by decide)) hG16 (by omega) (by omega) (n := n) (fun M21 hG19 F18 p_20 => ?_))))
      have F22 := FR.c F17 F18 tg_111
      have b_23 := g_b hG19 (a := 1) (i := 5) (lo := 0) (hi := 501) rfl rfl
      refine to_an (pc := 34) rw_78_34 rfl (to_c (pc := 35) rw_78_35 (x := (-1 : Int32)) rfl rfl (s_pI (pc := 36) rw_78_36 hG19 rfl (fun M25 W24 => ?_)))
      have F27 := FR.w F22 W24 (show 1 = 1 ∨ 3 ≤ 1 ∧ 1 ≤ 5 by decide)
      refine to_an (pc := 39) rw_78_39 rfl (s_v (pc := 40) rw_78_40 (dp0 hd (by decide)) (ls0 := [.ref 1]) rfl (Nat.le_of_ble_eq_true rfl) (Nat.le_of_ble_eq_true rfl) rfl (to_rc rfl rfl rfl (g_oW hG19 W24 rfl)) rfl (to_an (pc := 0) rw_83_0 rfl ?_))
      have c_28 : M25.2.1 1 6 = (-1 : Int32) := (W_e W24)
      refine tt_gI (pc := 1) rw_83_1 (g_oW hG19 W24 rfl) (v := (-1 : Int32)) c_28 (to_c (pc := 4) rw_83_4 (x := (1 : Int32)) rfl rfl (s_add (pc := 5) rw_83_5 (A := -1) (B := 1) rfl rfl (by omega) (fun v29 e30 => to_an (pc := 6) rw_83_6 rfl ?_)))
      have c_31 : M25.2.1 1 5 = (M21.2.1 1 5) := (W_n W24 (by decide) rfl)
      refine tt_gI (pc := 7) rw_83_7 (g_oW hG19 W24 rfl) (v := (M21.2.1 1 5)) c_31 (b_cge_f (pc := 10) rw_83_10 (A := v29.toInt) (B := (M21.2.1 1 5).toInt) rfl rfl (by omega) (to_an (pc := 13) rw_83_13 rfl (to_dupr (pc := 14) rw_83_14 (tt_gI (pc := 15) rw_83_15 (g_oW hG19 W24 rfl) (v := (-1 : Int32)) c_28 (to_c (pc := 18) rw_83_18 (x := (1 : Int32)) rfl rfl (s_add (pc := 19) rw_83_19 (A := -1) (B := 1) rfl rfl (by omega) (fun v32 e33 => s_pI0 (pc := 20) rw_83_20 (g_oW hG19 W24 rfl) (fun M35 W34 => ?_))))))))
      have hG36 := g_w hG19 (W_ww W34 W24) (A := v32.toInt) rfl (lo := 0) (hi := 500) rfl rfl (by omega) (by decide)
      have F37 := FR.w F27 W34 (show 1 = 1 ∨ 3 ≤ 1 ∧ 1 ≤ 5 by decide)
      refine to_an (pc := 23) rw_83_23 rfl (to_an (pc := 24) rw_83_24 rfl (s_gR (pc := 25) rw_83_25 hG36 rfl (v := 3) rfl (to_an (pc := 28) rw_83_28 rfl ?_)))
      have c_38 : M35.2.1 1 6 = v32 := (W_e W34)
      refine tt_gI (pc := 29) rw_83_29 (g_o hG36 rfl) (v := v32) c_38 (s_ial (pc := 32) rw_83_32 hG36 rfl (n := 501) rfl rfl (A := v32.toInt) rfl (by omega) (by omega) (lo := -2147483648) (hi := 2147483647) rfl rfl (fun v39 w_40 _ _ => s_pI (pc := 33) rw_83_33 hG36 rfl (fun M42 W41 => ?_)))
      have hG43 := g_wf hG36 W41 rfl rfl (by decide)
      have F44 := FR.w F37 W41 (show 1 = 1 ∨ 3 ≤ 1 ∧ 1 ≤ 5 by decide)
      refine to_an (pc := 36) rw_83_36 rfl (to_an (pc := 37) rw_83_37 rfl (s_gR (pc := 38) rw_83_38 hG43 rfl (v := 4) rfl (to_an (pc := 41) rw_83_41 rfl ?_)))
      have c_45 : M42.2.1 1 6 = v32 := (W_n W41 (by decide) c_38)
      refine tt_gI (pc := 42) rw_83_42 (g_o hG43 rfl) (v := v32) c_45 (s_ial (pc := 45) rw_83_45 hG43 rfl (n := 501) rfl rfl (A := v32.toInt) rfl (by omega) (by omega) (lo := -2147483648) (hi := 2147483647) rfl rfl (fun v46 w_47 _ _ => s_pI (pc := 46) rw_83_46 hG43 rfl (fun M49 W48 => ?_)))
      have hG50 := g_wf hG43 W48 rfl rfl (by decide)
      have F51 := FR.w F44 W48 (show 1 = 1 ∨ 3 ≤ 1 ∧ 1 ≤ 5 by decide)
      refine to_an (pc := 49) rw_83_49 rfl (to_an (pc := 50) rw_83_50 rfl (s_gR (pc := 51) rw_83_51 hG50 rfl (v := 5) rfl (to_an (pc := 54) rw_83_54 rfl ?_)))
      have c_52 : M49.2.1 1 6 = v32 := (W_n W48 (by decide) c_45)
      refine tt_gI (pc := 55) rw_83_55 (g_o hG50 rfl) (v := v32) c_52 (s_ial (pc := 58) rw_83_58 hG50 rfl (n := 501) rfl rfl (A := v32.toInt) rfl (by omega) (by omega) (lo := -2147483648) (hi := 2147483647) rfl rfl (fun v53 w_54 _ _ => s_pI (pc := 59) rw_83_59 hG50 rfl (fun M56 W55 => ?_)))
      have hG57 := g_wf hG50 W55 rfl rfl (by decide)
      have F58 := FR.w F51 W55 (show 1 = 1 ∨ 3 ≤ 1 ∧ 1 ≤ 5 by decide)
      refine to_rv (pc := 62) rw_83_62 (to_c (pc := 43) rw_78_43 (x := (1 : Int32)) rfl rfl (s_r1 (pc := 44) rw_78_44 (A := 1) rfl (by decide) ?_))
      have k_59 : (1 : Int32).toInt = 1 := rfl
      have c_60 : M56.2.1 1 1 = (0 : Int32) := (W_n W55 (by decide) (W_n W48 (by decide) (W_n W41 (by decide) (W_n W34 (by decide) (W_n W24 (by decide) (F_n F18 (show ¬ (1 = 1 ∧ 5 ≤ 1 ∨ 3 ≤ 1 ∧ 1 ≤ 5) by decide) (W_n W14 (by decide) (W_n W10 (by decide) (W_e W6)))))))))
      have k_61 : (0 : Int32).toInt = 0 := rfl
      have t_62 : (M56.2.1 1 1).toInt = (0 : Int32).toInt := congrArg Int32.toInt c_60
      exact h (1 : Int32) M56 hG57 F58 (by decide) (by decide) (by omega) (by omega)
    · refine to_c (pc := 12) rw_78_12 (x := (0 : Int32)) rfl rfl (s_r1 (pc := 13) rw_78_13 (A := 0) rfl (by decide) ?_)
      have k_63 : (0 : Int32).toInt = 0 := rfl
      exact h (0 : Int32) M hG F0 (by decide) (by decide) (by omega) (by omega)
set_option maxRecDepth 4000 in
set_option maxHeartbeats 0 in
theorem C_89 {X : mm_X} {d : Nat} {M : mm_M} {Q : Option Value → mm_M → Prop} {x : Int32} (hX : g_X X) (hd : 1 ≤ d) (hG : g_G M) (h : ∀ (r : Int32) (M1 : mm_M), g_G M1 → FR md_t M M1 → (0 ≤ r.toInt) → (r.toInt ≤ 1) → Q (some (.int r)) M1) : mm_T X d 89 0 [.ref 1, .int x] [] M Q := by
  have F0 : FR md_t M M := FR.rf
  refine to_an (pc := 0) rw_89_0 rfl (to_in (pc := 1) rw_89_1 rfl (s_v (pc := 2) rw_89_2 (dp0 hd (by decide)) (ls0 := [.ref 1, .int x]) rfl (Nat.le_of_ble_eq_true rfl) (Nat.le_of_ble_eq_true rfl) rfl (to_rc rfl rfl rfl (g_o hG rfl)) rfl (to_an (pc := 0) rw_86_0 rfl (tt_gI (pc := 1) rw_86_1 (g_o hG rfl) (v := (M.2.1 1 7)) rfl (to_c (pc := 4) rw_86_4 (x := (4 : Int32)) rfl rfl (b_cne (pc := 5) rw_86_5 (A := (M.2.1 1 7).toInt) (B := 4) rfl rfl (fun h1 => ?_) (fun h1 => ?_)))))))
  · refine to_c (pc := 20) rw_86_20 (x := (0 : Int32)) rfl rfl (s_r1 (pc := 21) rw_86_21 (A := 0) rfl (by decide) (b_ine_f (pc := 5) rw_89_5 (A := 0) rfl (by decide) (to_an (pc := 8) rw_89_8 rfl (to_c (pc := 9) rw_89_9 (x := (1 : Int32)) rfl rfl (s_v (pc := 10) rw_89_10 (dp0 hd (by decide)) (ls0 := [.ref 1, .int (1 : Int32)]) rfl (Nat.le_of_ble_eq_true rfl) (Nat.le_of_ble_eq_true rfl) rfl (to_rc rfl rfl rfl (g_o hG rfl)) rfl (to_an (pc := 0) rw_84_0 rfl (to_in (pc := 1) rw_84_1 rfl (s_pI (pc := 2) rw_84_2 hG rfl (fun M3 W2 => ?_)))))))))
    have hG4 := g_wf hG W2 rfl rfl (by decide)
    have F5 := FR.w F0 W2 (show 1 = 1 ∧ 5 ≤ 10 ∨ 3 ≤ 1 ∧ 1 ≤ 5 by decide)
    refine to_an (pc := 5) rw_84_5 rfl (to_an (pc := 6) rw_84_6 rfl ?_)
    have c_6 : M3.2.1 1 9 = (M.2.1 1 9) := (W_n W2 (by decide) rfl)
    refine tt_gI (pc := 7) rw_84_7 (g_o hG4 rfl) (v := (M.2.1 1 9)) c_6 (s_pI (pc := 10) rw_84_10 hG4 rfl (fun M8 W7 => ?_))
    have hG9 := g_wf hG4 W7 rfl rfl (by decide)
    have F10 := FR.w F5 W7 (show 1 = 1 ∧ 5 ≤ 11 ∨ 3 ≤ 1 ∧ 1 ≤ 5 by decide)
    refine to_c (pc := 13) rw_84_13 (x := (0 : Int32)) rfl rfl (s_r1 (pc := 14) rw_84_14 (A := 0) rfl (by decide) (s_r1 (pc := 13) rw_89_13 (A := 0) rfl (by decide) ?_))
    have k_11 : (0 : Int32).toInt = 0 := rfl
    exact h (0 : Int32) M8 hG9 F10 (by decide) (by decide)
  · refine to_an (pc := 8) rw_86_8 rfl (tt_gI (pc := 9) rw_86_9 (g_o hG rfl) (v := (M.2.1 1 8)) rfl (to_in (pc := 12) rw_86_12 rfl (b_cne (pc := 13) rw_86_13 (A := (M.2.1 1 8).toInt) (B := x.toInt) rfl rfl (fun h12 => ?_) (fun h12 => ?_))))
    · refine to_c (pc := 20) rw_86_20 (x := (0 : Int32)) rfl rfl (s_r1 (pc := 21) rw_86_21 (A := 0) rfl (by decide) (b_ine_f (pc := 5) rw_89_5 (A := 0) rfl (by decide) (to_an (pc := 8) rw_89_8 rfl (to_c (pc := 9) rw_89_9 (x := (1 : Int32)) rfl rfl (s_v (pc := 10) rw_89_10 (dp0 hd (by decide)) (ls0 := [.ref 1, .int (1 : Int32)]) rfl (Nat.le_of_ble_eq_true rfl) (Nat.le_of_ble_eq_true rfl) rfl (to_rc rfl rfl rfl (g_o hG rfl)) rfl (to_an (pc := 0) rw_84_0 rfl (to_in (pc := 1) rw_84_1 rfl (s_pI (pc := 2) rw_84_2 hG rfl (fun M14 W13 => ?_)))))))))
      have hG15 := g_wf hG W13 rfl rfl (by decide)
      have F16 := FR.w F0 W13 (show 1 = 1 ∧ 5 ≤ 10 ∨ 3 ≤ 1 ∧ 1 ≤ 5 by decide)
      refine to_an (pc := 5) rw_84_5 rfl (to_an (pc := 6) rw_84_6 rfl ?_)
      have c_17 : M14.2.1 1 9 = (M.2.1 1 9) := (W_n W13 (by decide) rfl)
      refine tt_gI (pc := 7) rw_84_7 (g_o hG15 rfl) (v := (M.2.1 1 9)) c_17 (s_pI (pc := 10) rw_84_10 hG15 rfl (fun M19 W18 => ?_))
      have hG20 := g_wf hG15 W18 rfl rfl (by decide)
      have F21 := FR.w F16 W18 (show 1 = 1 ∧ 5 ≤ 11 ∨ 3 ≤ 1 ∧ 1 ≤ 5 by decide)
      refine to_c (pc := 13) rw_84_13 (x := (0 : Int32)) rfl rfl (s_r1 (pc := 14) rw_84_14 (A := 0) rfl (by decide) (s_r1 (pc := 13) rw_89_13 (A := 0) rfl (by decide) ?_))
      have k_22 : (0 : Int32).toInt = 0 := rfl
      exact h (0 : Int32) M19 hG20 F21 (by decide) (by decide)
    · refine to_c (pc := 16) rw_86_16 (x := (1 : Int32)) rfl rfl (to_go (pc := 17) rw_86_17 (s_r1 (pc := 21) rw_86_21 (A := 1) rfl (by decide) (b_ine_t (pc := 5) rw_89_5 (A := 1) rfl (by decide) (to_an (pc := 14) rw_89_14 rfl (s_v (pc := 15) rw_89_15 (dp0 hd (by decide)) (ls0 := [.ref 1]) rfl (Nat.le_of_ble_eq_true rfl) (Nat.le_of_ble_eq_true rfl) rfl (to_rc rfl rfl rfl (g_o hG rfl)) rfl (C_83 hX (dp1 hd (by decide)) hG  (fun M25 hG24 F23 => ?_)))))))
      have F26 := FR.c F0 F23 tg_110
      refine to_c (pc := 18) rw_89_18 (x := (1 : Int32)) rfl rfl (s_r1 (pc := 19) rw_89_19 (A := 1) rfl (by decide) ?_)
      have k_27 : (1 : Int32).toInt = 1 := rfl
      exact h (1 : Int32) M25 hG24 F26 (by decide) (by decide)
set_option maxRecDepth 4000 in
set_option maxHeartbeats 0 in
theorem C_90 {X : mm_X} {d : Nat} {M : mm_M} {Q : Option Value → mm_M → Prop} {x : Int32} (hX : g_X X) (hd : 1 ≤ d) (hG : g_G M) (h : ∀ (r : Int32) (M1 : mm_M), g_G M1 → FR md_t M M1 → (0 ≤ r.toInt) → (r.toInt ≤ 1) → (r.toInt = 1 → (M.2.1 1 7).toInt = x.toInt) → Q (some (.int r)) M1) : mm_T X d 90 0 [.ref 1, .int x] [] M Q := by
  have F0 : FR md_t M M := FR.rf
  refine to_an (pc := 0) rw_90_0 rfl (tt_gI (pc := 1) rw_90_1 (g_o hG rfl) (v := (M.2.1 1 7)) rfl (to_in (pc := 4) rw_90_4 rfl (b_ceq (pc := 5) rw_90_5 (A := (M.2.1 1 7).toInt) (B := x.toInt) rfl rfl (fun h1 => ?_) (fun h1 => ?_))))
  · refine to_an (pc := 14) rw_90_14 rfl (s_v (pc := 15) rw_90_15 (dp0 hd (by decide)) (ls0 := [.ref 1]) rfl (Nat.le_of_ble_eq_true rfl) (Nat.le_of_ble_eq_true rfl) rfl (to_rc rfl rfl rfl (g_o hG rfl)) rfl (C_83 hX (dp1 hd (by decide)) hG  (fun M4 hG3 F2 => ?_)))
    have F5 := FR.c F0 F2 tg_110
    refine to_c (pc := 18) rw_90_18 (x := (1 : Int32)) rfl rfl (s_r1 (pc := 19) rw_90_19 (A := 1) rfl (by decide) ?_)
    have k_6 : (1 : Int32).toInt = 1 := rfl
    exact h (1 : Int32) M4 hG3 F5 (by decide) (by decide) (by omega)
  · refine to_an (pc := 8) rw_90_8 rfl (to_c (pc := 9) rw_90_9 (x := (1 : Int32)) rfl rfl (s_v (pc := 10) rw_90_10 (dp0 hd (by decide)) (ls0 := [.ref 1, .int (1 : Int32)]) rfl (Nat.le_of_ble_eq_true rfl) (Nat.le_of_ble_eq_true rfl) rfl (to_rc rfl rfl rfl (g_o hG rfl)) rfl (to_an (pc := 0) rw_84_0 rfl (to_in (pc := 1) rw_84_1 rfl (s_pI (pc := 2) rw_84_2 hG rfl (fun M8 W7 => ?_))))))
    have hG9 := g_wf hG W7 rfl rfl (by decide)
    have F10 := FR.w F0 W7 (show 1 = 1 ∧ 5 ≤ 10 ∨ 3 ≤ 1 ∧ 1 ≤ 5 by decide)
    refine to_an (pc := 5) rw_84_5 rfl (to_an (pc := 6) rw_84_6 rfl ?_)
    have c_11 : M8.2.1 1 9 = (M.2.1 1 9) := (W_n W7 (by decide) rfl)
    refine tt_gI (pc := 7) rw_84_7 (g_o hG9 rfl) (v := (M.2.1 1 9)) c_11 (s_pI (pc := 10) rw_84_10 hG9 rfl (fun M13 W12 => ?_))
    have hG14 := g_wf hG9 W12 rfl rfl (by decide)
    have F15 := FR.w F10 W12 (show 1 = 1 ∧ 5 ≤ 11 ∨ 3 ≤ 1 ∧ 1 ≤ 5 by decide)
    refine to_c (pc := 13) rw_84_13 (x := (0 : Int32)) rfl rfl (s_r1 (pc := 14) rw_84_14 (A := 0) rfl (by decide) (s_r1 (pc := 13) rw_90_13 (A := 0) rfl (by decide) ?_))
    have k_16 : (0 : Int32).toInt = 0 := rfl
    exact h (0 : Int32) M13 hG14 F15 (by decide) (by decide) (by omega)
