set_option maxRecDepth 4000 in
set_option maxHeartbeats 0 in
theorem E_138 {X : mm_X} {d : Nat} {M : mm_M} {Q : Option Value → mm_M → Prop} {w : Int32} {p : Nat} {pz : Nat} {q : Nat} {qz : Nat} (hX : g_X X) (hd : 0 ≤ d) (hG : g_G M) (hp : p = 49 ∨ p = 58) (hpz : pz = 49 ∨ pz = 58) (hq : q = 67 ∨ q = 72) (hqz : qz = 67 ∨ qz = 72) (q1 : g_PQ M p pz q qz) (h : ∀ (r : Int32) (M1 : mm_M), g_G M1 → FR md_0 M M1 → (r.toInt = x_cnt w.toInt (M1.2.1 p 0).toInt (M1.2.1 p 2).toInt (M1.2.1 p 3).toInt (M1.2.1 0 12).toInt (M1.2.1 6 0).toInt (M1.2.1 q 4).toInt (M1.2.1 28 9).toInt (M1.2.1 28 8).toInt) → Q (some (.int r)) M1) : mm_T X d 138 0 [.ref 0, .int w] [] M Q := by
  have F0 : FR md_0 M M := FR.rf
  refine to_in (pc := 0) rw_138_0 rfl ?_
  rcases (show w.toInt = 0 ∨ w.toInt = 1 ∨ w.toInt = 2 ∨ w.toInt = 3 ∨ w.toInt = 4 ∨ w.toInt = 5 ∨ w.toInt = 6 ∨ w.toInt = 7 ∨ (w.toInt < 0 ∨ 7 < w.toInt) by omega) with h1 | h1 | h1 | h1 | h1 | h1 | h1 | h1 | h1
  · refine s_sw (pc := 1) rw_138_1 (A := w.toInt) (k := 0) (t := 48) rfl h1 (by decide) rfl (to_an (pc := 48) rw_138_48 rfl (tt_gR (pc := 49) rw_138_49 (g_o hG rfl) q1.1 ?_))
    have b_2 := g_b hG (a := p) (i := 0) (lo := 10) (hi := 60) (by rcases hp with rfl | rfl <;> rfl) (by rcases hp with rfl | rfl <;> rfl)
    refine tt_gI (pc := 52) rw_138_52 (g_o hG (by rcases hp with rfl | rfl <;> rfl)) (v := (M.2.1 p 0)) rfl (to_r0 (pc := 55) rw_138_55 ?_)
    exact h (M.2.1 p 0) M hG F0 (x_cnt_0 (by omega) (by omega))
  · refine s_sw (pc := 1) rw_138_1 (A := w.toInt) (k := 1) (t := 56) rfl h1 (by decide) rfl (to_an (pc := 56) rw_138_56 rfl (tt_gR (pc := 57) rw_138_57 (g_o hG rfl) q1.1 ?_))
    have b_3 := g_b hG (a := p) (i := 2) (lo := 0) (hi := 8) (by rcases hp with rfl | rfl <;> rfl) (by rcases hp with rfl | rfl <;> rfl)
    refine tt_gI (pc := 60) rw_138_60 (g_o hG (by rcases hp with rfl | rfl <;> rfl)) (v := (M.2.1 p 2)) rfl (to_r0 (pc := 63) rw_138_63 ?_)
    exact h (M.2.1 p 2) M hG F0 (x_cnt_1 (by omega) (by omega))
  · refine s_sw (pc := 1) rw_138_1 (A := w.toInt) (k := 2) (t := 64) rfl h1 (by decide) rfl (to_an (pc := 64) rw_138_64 rfl (tt_gR (pc := 65) rw_138_65 (g_o hG rfl) q1.1 ?_))
    have b_4 := g_b hG (a := p) (i := 3) (lo := 0) (hi := 12) (by rcases hp with rfl | rfl <;> rfl) (by rcases hp with rfl | rfl <;> rfl)
    refine tt_gI (pc := 68) rw_138_68 (g_o hG (by rcases hp with rfl | rfl <;> rfl)) (v := (M.2.1 p 3)) rfl (to_r0 (pc := 71) rw_138_71 ?_)
    exact h (M.2.1 p 3) M hG F0 (x_cnt_2 (by omega) (by omega))
  · refine s_sw (pc := 1) rw_138_1 (A := w.toInt) (k := 3) (t := 72) rfl h1 (by decide) rfl (to_an (pc := 72) rw_138_72 rfl ?_)
    have b_5 := g_b hG (a := 0) (i := 12) (lo := 0) (hi := 30) rfl rfl
    refine tt_gI (pc := 73) rw_138_73 (g_o hG rfl) (v := (M.2.1 0 12)) rfl (to_r0 (pc := 76) rw_138_76 ?_)
    exact h (M.2.1 0 12) M hG F0 (x_cnt_3 (by omega) (by omega))
  · refine s_sw (pc := 1) rw_138_1 (A := w.toInt) (k := 4) (t := 77) rfl h1 (by decide) rfl (to_an (pc := 77) rw_138_77 rfl (s_gR (pc := 78) rw_138_78 hG rfl (v := 6) rfl ?_))
    have b_6 := g_b hG (a := 6) (i := 0) (lo := 0) (hi := 150) rfl rfl
    refine tt_gI (pc := 81) rw_138_81 (g_o hG rfl) (v := (M.2.1 6 0)) rfl (to_r0 (pc := 84) rw_138_84 ?_)
    exact h (M.2.1 6 0) M hG F0 (x_cnt_4 (by omega) (by omega))
  · refine s_sw (pc := 1) rw_138_1 (A := w.toInt) (k := 5) (t := 85) rfl h1 (by decide) rfl (to_an (pc := 85) rw_138_85 rfl (tt_gR (pc := 86) rw_138_86 (g_o hG rfl) q1.2.2.1 ?_))
    have b_7 := g_b hG (a := q) (i := 4) (lo := 0) (hi := 40) (by rcases hq with rfl | rfl <;> rfl) (by rcases hq with rfl | rfl <;> rfl)
    refine tt_gI (pc := 89) rw_138_89 (g_o hG (by rcases hq with rfl | rfl <;> rfl)) (v := (M.2.1 q 4)) rfl (to_r0 (pc := 92) rw_138_92 ?_)
    exact h (M.2.1 q 4) M hG F0 (x_cnt_5 (by omega) (by omega))
  · refine s_sw (pc := 1) rw_138_1 (A := w.toInt) (k := 6) (t := 93) rfl h1 (by decide) rfl (to_an (pc := 93) rw_138_93 rfl (s_gR (pc := 94) rw_138_94 hG rfl (v := 28) rfl (tt_gI (pc := 97) rw_138_97 (g_o hG rfl) (v := (M.2.1 28 9)) rfl (to_r0 (pc := 100) rw_138_100 ?_))))
    exact h (M.2.1 28 9) M hG F0 (x_cnt_6 (by omega) (by omega))
  · refine s_sw (pc := 1) rw_138_1 (A := w.toInt) (k := 7) (t := 101) rfl h1 (by decide) rfl (to_an (pc := 101) rw_138_101 rfl (s_gR (pc := 102) rw_138_102 hG rfl (v := 28) rfl ?_))
    have b_8 := g_b hG (a := 28) (i := 8) (lo := 0) (hi := 3000) rfl rfl
    refine tt_gI (pc := 105) rw_138_105 (g_o hG rfl) (v := (M.2.1 28 8)) rfl (to_r0 (pc := 108) rw_138_108 ?_)
    exact h (M.2.1 28 8) M hG F0 (x_cnt_7 (by omega) (by omega))
  · refine s_swd (pc := 1) rw_138_1 (A := w.toInt) rfl h1 (to_c (pc := 109) rw_138_109 (x := (-1 : Int32)) rfl rfl (to_r0 (pc := 110) rw_138_110 ?_))
    have k_9 : (-1 : Int32).toInt = -1 := rfl
    exact h (-1 : Int32) M hG F0 (x_cnt_n (by omega) (by omega))
set_option maxRecDepth 4000 in
set_option maxHeartbeats 0 in
theorem E_246 {X : mm_X} {d : Nat} {M : mm_M} {Q : Option Value → mm_M → Prop} {w : Int32} (hX : g_X X) (hd : 0 ≤ d) (hG : g_G M) (h : ∀ (r : Int32) (M1 : mm_M), g_G M1 → FR md_2 M M1 → (r.toInt = x_cnt w.toInt (M1.2.1 77 11).toInt (M1.2.1 77 12).toInt (M1.2.1 77 13).toInt (M1.2.1 77 28).toInt (M1.2.1 77 29).toInt (M1.2.1 77 58).toInt (M1.2.1 77 42).toInt (M1.2.1 77 43).toInt) → Q (some (.int r)) M1) : mm_T X d 245 0 [.ref 77, .int w] [] M Q := by
  have F0 : FR md_2 M M := FR.rf
  refine to_an (pc := 0) rw_246_0 rfl (to_c (pc := 1) rw_246_1 (x := (0 : Int32)) rfl rfl (s_pI (pc := 2) rw_246_2 hG rfl (fun M2 W1 => ?_)))
  have hG3 := g_wf hG W1 rfl rfl (by decide)
  have F4 := FR.w F0 W1 (show 77 = 77 ∧ 2 = 2 by decide)
  refine to_in (pc := 5) rw_246_5 rfl ?_
  rcases (show w.toInt = 0 ∨ w.toInt = 1 ∨ w.toInt = 2 ∨ w.toInt = 3 ∨ w.toInt = 4 ∨ w.toInt = 5 ∨ w.toInt = 6 ∨ w.toInt = 7 ∨ (w.toInt < 0 ∨ 7 < w.toInt) by omega) with h5 | h5 | h5 | h5 | h5 | h5 | h5 | h5 | h5
  · refine s_sw (pc := 6) rw_246_6 (A := w.toInt) (k := 0) (t := 52) rfl h5 (by decide) rfl (to_an (pc := 52) rw_246_52 rfl ?_)
    have c_6 : M2.2.1 77 11 = (M.2.1 77 11) := (W_n W1 (by decide) rfl)
    have b_7 := g_b hG (a := 77) (i := 11) (lo := 10) (hi := 60) rfl rfl
    refine tt_gI (pc := 53) rw_246_53 (g_o hG3 rfl) (v := (M.2.1 77 11)) c_6 (to_r0 (pc := 56) rw_246_56 ?_)
    have t_8 : (M2.2.1 77 11).toInt = (M.2.1 77 11).toInt := congrArg Int32.toInt c_6
    exact h (M.2.1 77 11) M2 hG3 F4 (x_cnt_0 (by omega) (by omega))
  · refine s_sw (pc := 6) rw_246_6 (A := w.toInt) (k := 1) (t := 57) rfl h5 (by decide) rfl (to_an (pc := 57) rw_246_57 rfl ?_)
    have c_9 : M2.2.1 77 12 = (M.2.1 77 12) := (W_n W1 (by decide) rfl)
    have b_10 := g_b hG (a := 77) (i := 12) (lo := 0) (hi := 8) rfl rfl
    refine tt_gI (pc := 58) rw_246_58 (g_o hG3 rfl) (v := (M.2.1 77 12)) c_9 (to_r0 (pc := 61) rw_246_61 ?_)
    have t_11 : (M2.2.1 77 12).toInt = (M.2.1 77 12).toInt := congrArg Int32.toInt c_9
    exact h (M.2.1 77 12) M2 hG3 F4 (x_cnt_1 (by omega) (by omega))
  · refine s_sw (pc := 6) rw_246_6 (A := w.toInt) (k := 2) (t := 62) rfl h5 (by decide) rfl (to_an (pc := 62) rw_246_62 rfl ?_)
    have c_12 : M2.2.1 77 13 = (M.2.1 77 13) := (W_n W1 (by decide) rfl)
    have b_13 := g_b hG (a := 77) (i := 13) (lo := 0) (hi := 12) rfl rfl
    refine tt_gI (pc := 63) rw_246_63 (g_o hG3 rfl) (v := (M.2.1 77 13)) c_12 (to_r0 (pc := 66) rw_246_66 ?_)
    have t_14 : (M2.2.1 77 13).toInt = (M.2.1 77 13).toInt := congrArg Int32.toInt c_12
    exact h (M.2.1 77 13) M2 hG3 F4 (x_cnt_2 (by omega) (by omega))
  · refine s_sw (pc := 6) rw_246_6 (A := w.toInt) (k := 3) (t := 67) rfl h5 (by decide) rfl (to_an (pc := 67) rw_246_67 rfl ?_)
    have c_15 : M2.2.1 77 28 = (M.2.1 77 28) := (W_n W1 (by decide) rfl)
    have b_16 := g_b hG (a := 77) (i := 28) (lo := 0) (hi := 30) rfl rfl
    refine tt_gI (pc := 68) rw_246_68 (g_o hG3 rfl) (v := (M.2.1 77 28)) c_15 (to_r0 (pc := 71) rw_246_71 ?_)
    have t_17 : (M2.2.1 77 28).toInt = (M.2.1 77 28).toInt := congrArg Int32.toInt c_15
    exact h (M.2.1 77 28) M2 hG3 F4 (x_cnt_3 (by omega) (by omega))
  · refine s_sw (pc := 6) rw_246_6 (A := w.toInt) (k := 4) (t := 72) rfl h5 (by decide) rfl (to_an (pc := 72) rw_246_72 rfl ?_)
    have c_18 : M2.2.1 77 29 = (M.2.1 77 29) := (W_n W1 (by decide) rfl)
    have b_19 := g_b hG (a := 77) (i := 29) (lo := 0) (hi := 150) rfl rfl
    refine tt_gI (pc := 73) rw_246_73 (g_o hG3 rfl) (v := (M.2.1 77 29)) c_18 (to_r0 (pc := 76) rw_246_76 ?_)
    have t_20 : (M2.2.1 77 29).toInt = (M.2.1 77 29).toInt := congrArg Int32.toInt c_18
    exact h (M.2.1 77 29) M2 hG3 F4 (x_cnt_4 (by omega) (by omega))
  · refine s_sw (pc := 6) rw_246_6 (A := w.toInt) (k := 5) (t := 77) rfl h5 (by decide) rfl (to_an (pc := 77) rw_246_77 rfl ?_)
    have c_21 : M2.2.1 77 58 = (M.2.1 77 58) := (W_n W1 (by decide) rfl)
    have b_22 := g_b hG (a := 77) (i := 58) (lo := 0) (hi := 40) rfl rfl
    refine tt_gI (pc := 78) rw_246_78 (g_o hG3 rfl) (v := (M.2.1 77 58)) c_21 (to_r0 (pc := 81) rw_246_81 ?_)
    have t_23 : (M2.2.1 77 58).toInt = (M.2.1 77 58).toInt := congrArg Int32.toInt c_21
    exact h (M.2.1 77 58) M2 hG3 F4 (x_cnt_5 (by omega) (by omega))
  · refine s_sw (pc := 6) rw_246_6 (A := w.toInt) (k := 6) (t := 82) rfl h5 (by decide) rfl (to_an (pc := 82) rw_246_82 rfl ?_)
    have c_24 : M2.2.1 77 42 = (M.2.1 77 42) := (W_n W1 (by decide) rfl)
    refine tt_gI (pc := 83) rw_246_83 (g_o hG3 rfl) (v := (M.2.1 77 42)) c_24 (to_r0 (pc := 86) rw_246_86 ?_)
    have t_25 : (M2.2.1 77 42).toInt = (M.2.1 77 42).toInt := congrArg Int32.toInt c_24
    exact h (M.2.1 77 42) M2 hG3 F4 (x_cnt_6 (by omega) (by omega))
  · refine s_sw (pc := 6) rw_246_6 (A := w.toInt) (k := 7) (t := 87) rfl h5 (by decide) rfl (to_an (pc := 87) rw_246_87 rfl ?_)
    have c_26 : M2.2.1 77 43 = (M.2.1 77 43) := (W_n W1 (by decide) rfl)
    have b_27 := g_b hG (a := 77) (i := 43) (lo := 0) (hi := 3000) rfl rfl
    refine tt_gI (pc := 88) rw_246_88 (g_o hG3 rfl) (v := (M.2.1 77 43)) c_26 (to_r0 (pc := 91) rw_246_91 ?_)
    have t_28 : (M2.2.1 77 43).toInt = (M.2.1 77 43).toInt := congrArg Int32.toInt c_26
    exact h (M.2.1 77 43) M2 hG3 F4 (x_cnt_7 (by omega) (by omega))
  · refine s_swd (pc := 6) rw_246_6 (A := w.toInt) rfl h5 (to_c (pc := 92) rw_246_92 (x := (-1 : Int32)) rfl rfl (to_r0 (pc := 93) rw_246_93 ?_))
    have k_29 : (-1 : Int32).toInt = -1 := rfl
    exact h (-1 : Int32) M2 hG3 F4 (x_cnt_n (by omega) (by omega))
