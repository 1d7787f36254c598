theorem tg_141 : ∀ a i : Nat, (a = 36 ∧ 2 ≤ i ∧ i ≤ 4) → (36 ≤ a ∧ a ≤ 38) := fun a i z => by omega
theorem tg_142 : ∀ a i : Nat, (a < 0) → (36 ≤ a ∧ a ≤ 38) := fun a i z => by omega
theorem tg_143 : ∀ a i : Nat, (11 ≤ a ∧ a ≤ 16) → (11 ≤ a ∧ a ≤ 16 ∨ 36 ≤ a ∧ a ≤ 38) := fun a i z => by omega
theorem tg_144 : ∀ a i : Nat, (36 ≤ a ∧ a ≤ 38) → (11 ≤ a ∧ a ≤ 16 ∨ 36 ≤ a ∧ a ≤ 38) := fun a i z => by omega
set_option maxRecDepth 4000 in
set_option maxHeartbeats 0 in
theorem U_2_0 {X : mm_X} {d : Nat} {M : mm_M} {Q : Option Value → mm_M → Prop} {p : Nat} {c : Int32} {w : Int32} {sg : x_S} {ca : Int} {K : x_Kn} (hX : g_X X) (hd : 27 ≤ d) (hp : p = 49 ∨ p = 58) (q1 : c.toInt = ca) (q2 : 0 ≤ ca) (q3 : ca ≤ 30) (q4 : 0 ≤ w.toInt) (q5 : w.toInt ≤ 11) (q6 : w.toInt < sg.2.2.1) (q7 : PLs M p sg) (q8 : KST M 12 13 14 15 ca sg K) (h : ∀ (r : Int32) (M1 : mm_M), g_G M1 → FR md_b M M1 → (x_QB sg K ca w.toInt r.toInt) → Q (some (.int r)) M1) : ∀ nn9 : Nat, (∀ (N : mm_M) (x5 : Int32) (x6 : Int32) (x7 : Int32) (x8 : Int32) (u9 : Value), g_G N → FR md_b M N → (0 ≤ x8.toInt) → (x8.toInt ≤ 24) → (x8.toInt ≤ x7.toInt) → (x7.toInt ≤ 24) → (x7.toInt = x_row sg 4 (x_row sg 7 w.toInt) - x_row sg 3 (x_row sg 7 w.toInt) + 1) → (c.toInt = ca) → (0 ≤ ca) → (ca ≤ 30) → (0 ≤ w.toInt) → (w.toInt ≤ 11) → (w.toInt < sg.2.2.1) → (x5.toInt = x_row sg 7 w.toInt) → (PLs N p sg) → (KST N 12 13 14 15 ca sg K) → (x6 = x_wo9 K w.toInt ca.toNat) → (CU5 N (x_cu9 K w.toInt ca.toNat (x_fF sg w.toInt)) (fun i => x_oa9 K w.toInt (x_fF sg w.toInt + (i : Int)) sg.2.2.1.toNat 0 0) x8.toInt) → 24 - x8.toInt < (nn9 : Int) → mm_T X d 2 63 [.ref 36, .ref p, .ref 11, .int c, .int w, .int x5, .int x6, .int x7, .int x8, u9] [] N Q) := by
  intro nn9
  induction nn9 with
  | zero =>
    intro N x5 x6 x7 x8 u9 hG F0 g1 g2 g3 g4 g5 g6 g7 g8 g9 g10 g11 g12 g13 g14 g15 g16 hm
    exfalso; omega
  | succ nn9 ih =>
    intro N x5 x6 x7 x8 u9 hG F0 g1 g2 g3 g4 g5 g6 g7 g8 g9 g10 g11 g12 g13 g14 g15 g16 hm
    have z_1 := g13.2.1
    have z_2 := g13.2.2.1
    have z_3 := g13.2.2.2.1
    have z_4 := g13.1
    have z_5 := z_4.1
    have z_6 := z_4.2.1
    have z_7 := z_4.2.2.1
    have z_8 := z_4.2.2.2.1
    have z_9 := z_4.2.2.2.2.1
    have z_10 := z_4.2.2.2.2.2.1
    have z_11 := g13.1.2.2.2.2.2.2.1 w.toInt (by omega) (by omega)
    have z_12 := g13.1.2.2.2.2.2.2.2 (x_row sg 7 w.toInt) (by omega) (by omega)
    have z_13 : x_fF sg w.toInt = x_row sg 3 (x_row sg 7 w.toInt) := rfl
    have z_14 : x_fW sg w.toInt = x_row sg 4 (x_row sg 7 w.toInt) - x_row sg 3 (x_row sg 7 w.toInt) + 1 := rfl
    have z_15 := x_fK_e (s := sg) (w := w.toInt) (by omega)
    have z_16 := g13.1.2.2.2.2.2.2.1 w.toInt (by omega) (by omega)
    refine to_i (pc := 63) rw_2_63 rfl (to_i (pc := 65) rw_2_65 rfl (b_cge (pc := 67) rw_2_67 (A := x8.toInt) (B := x7.toInt) rfl rfl (fun h17 => ?_) (fun h17 => ?_)))
    · refine to_an (pc := 121) rw_2_121 rfl (to_c (pc := 122) rw_2_122 (x := (-1 : Int32)) rfl rfl (s_pI (pc := 123) rw_2_123 hG rfl (fun M19 W18 => ?_)))
      have hG20 := g_wf hG W18 rfl rfl (by decide)
      have F21 := FR.w F0 W18 (show 36 ≤ 36 ∧ 36 ≤ 38 by decide)
      refine to_an (pc := 126) rw_2_126 rfl (to_an (pc := 127) rw_2_127 rfl (s_gR (pc := 128) rw_2_128 hG20 (by rcases hp with rfl | rfl <;> rfl) (v := (p + 5)) (by rcases hp with rfl | rfl <;> rfl) (to_i (pc := 131) rw_2_131 rfl (s_ial (pc := 133) rw_2_133 hG20 (by rcases hp with rfl | rfl <;> rfl) (n := 8) (by rcases hp with rfl | rfl <;> rfl) (by rcases hp with rfl | rfl <;> rfl) (A := x5.toInt) rfl (by omega) (by omega) (lo := 0) (hi := 24) (by rcases hp with rfl | rfl <;> rfl) (by rcases hp with rfl | rfl <;> rfl) (fun v22 w_23 _ _ => ?_)))))
      have j_24 := (PLs_f (fun a i z => W_n W18 (by /-r36,2-/ omega) rfl) g13)
      have z_25 := PLs_r j_24 5 (by decide) (by decide) (k := x5.toInt) (by omega) (by omega) w_23
      have z_26 := x_row_v (s := sg) (r := 5) (x := x5.toInt) (y := x_row sg 7 w.toInt) (by omega)
      refine to_i (pc := 134) rw_2_134 rfl (to_c (pc := 136) rw_2_136 (x := (0 : Int32)) rfl rfl (to_i (pc := 137) rw_2_137 rfl (to_c (pc := 139) rw_2_139 (x := (0 : Int32)) rfl rfl (s_v (pc := 140) rw_2_140 (dp0 hd (by decide)) (ls0 := [.ref 36, .int v22, .int x7, .int (0 : Int32), .int x6, .int (0 : Int32), .null]) rfl (Nat.le_of_ble_eq_true rfl) (Nat.le_of_ble_eq_true rfl) rfl (to_rc rfl rfl rfl (g_o hG20 rfl)) rfl ?_))))
      have k_27 : (0 : Int32).toInt = 0 := rfl
      have c_28 : M19.2.1 36 2 = (-1 : Int32) := (W_e W18)
      have k_29 : (-1 : Int32).toInt = -1 := rfl
      have t_30 : (M19.2.1 36 2).toInt = (-1 : Int32).toInt := congrArg Int32.toInt c_28
      have z_31 := x_wo_b (Q := K) (w := w.toInt) (ca := ca) (by omega) g15
      refine E_5 hX (by omega) hG20 (by omega) (by omega) (by omega) (by omega) (by omega) (by omega) (by omega) (by omega) (by omega) (by omega) (by omega) (by omega) (OR5_0 (fun x z => z)) (SB5_0 (by omega)) (CU5_w (by omega) (CU5_f (fun i => (W_n W18 (by omega) rfl)) (fun i => (W_n W18 (by omega) rfl)) g16)) (CH5_0 (by omega)) (DD5_0 (by omega) g15) (SS5_0 (by omega) (by first | rfl | omega)) (LSM_0 (fun x z => z) (by omega)) (l := v22) (b := x7) (c := (0 : Int32)) (y := x6) (s := (0 : Int32)) (wi := (x_wo9 K w.toInt ca.toNat)) (cu := (x_cu9 K w.toInt ca.toNat (x_fF sg w.toInt))) (sh := (fun i => x_oa9 K w.toInt (x_fF sg w.toInt + (i : Int)) sg.2.2.1.toNat 0 0)) (kk := (x_fK sg w.toInt)) (ww := (x_fW sg w.toInt)) (yy := (fun _ => 0)) (vv := (fun _ => False)) (fun M35 hG33 F32 p_34 => ?_)
      have F36 := FR.c F21 F32 tg_141
      refine to_an (pc := 143) rw_2_143 rfl (tt_gI (pc := 144) rw_2_144 (g_o hG33 rfl) (v := (M35.2.1 36 2)) rfl (to_r0 (pc := 147) rw_2_147 ?_))
      exact h (M35.2.1 36 2) M35 hG33 F36 (x_QB_c p_34 (by omega) (by omega) (by first | rfl | omega))
    · refine to_an (pc := 70) rw_2_70 rfl (s_gR (pc := 71) rw_2_71 hG (by rcases hp with rfl | rfl <;> rfl) (v := (p + 3)) (by rcases hp with rfl | rfl <;> rfl) (to_i (pc := 74) rw_2_74 rfl (s_ial (pc := 76) rw_2_76 hG (by rcases hp with rfl | rfl <;> rfl) (n := 8) (by rcases hp with rfl | rfl <;> rfl) (by rcases hp with rfl | rfl <;> rfl) (A := x5.toInt) rfl (by omega) (by omega) (lo := 0) (hi := 59) (by rcases hp with rfl | rfl <;> rfl) (by rcases hp with rfl | rfl <;> rfl) (fun v37 w_38 _ _ => ?_))))
      have z_39 := PLs_r g13 3 (by decide) (by decide) (k := x5.toInt) (by omega) (by omega) w_38
      have z_40 := x_row_v (s := sg) (r := 3) (x := x5.toInt) (y := x_row sg 7 w.toInt) (by omega)
      refine to_i (pc := 77) rw_2_77 rfl (s_add (pc := 79) rw_2_79 (A := v37.toInt) (B := x8.toInt) rfl rfl (by omega) (fun v41 e42 => to_is (pc := 80) rw_2_80 (ls2 := [.ref 36, .ref p, .ref 11, .int c, .int w, .int x5, .int x6, .int x7, .int x8, .int v41]) rfl rfl (to_an (pc := 82) rw_2_82 rfl (s_gR (pc := 83) rw_2_83 hG rfl (v := 37) rfl (to_i (pc := 86) rw_2_86 rfl (to_i (pc := 88) rw_2_88 rfl (to_an (pc := 90) rw_2_90 rfl (to_in (pc := 91) rw_2_91 rfl (to_i (pc := 92) rw_2_92 rfl (s_s (pc := 94) rw_2_94 (dp0 hd (by decide)) (ls0 := [.ref 11, .int c, .int v41, .null, .null]) rfl (Nat.le_of_ble_eq_true rfl) (Nat.le_of_ble_eq_true rfl) rfl (to_rcs rfl rfl) rfl (E_3 hX (dp1 hd (by decide)) hG (by omega) (by omega) (by omega) (by omega) (by omega) g14 (c := c) (y := v41) (sg := sg) (ca := ca) (K := K) (fun r43 M47 hG45 F44 p_46 => ?_))))))))))))
      have F48 := FR.c F0 F44 tg_142
      refine s_opE (pc := 97) rw_2_97 (w := x6 &&& r43) rfl (fun v49 e50 => ?_)
      have z_51 := CU9_e (f := x_fF sg w.toInt) (h := x8.toInt) g15 p_46 (by omega) (by omega) e50
      refine s_ias (pc := 98) rw_2_98 hG45 rfl (n := 24) rfl (A := x8.toInt) rfl (by omega) (by omega) (fun M53 W52 => ?_)
      have hG54 := g_wf hG45 W52 rfl rfl (by decide)
      have F55 := FR.w F48 W52 (show 36 ≤ 37 ∧ 37 ≤ 38 by decide)
      refine to_an (pc := 99) rw_2_99 rfl (s_gR (pc := 100) rw_2_100 hG54 rfl (v := 38) rfl (to_i (pc := 103) rw_2_103 rfl (to_an (pc := 105) rw_2_105 rfl (to_an (pc := 106) rw_2_106 rfl (to_i (pc := 107) rw_2_107 rfl (to_i (pc := 109) rw_2_109 rfl (s_s (pc := 111) rw_2_111 (dp0 hd (by decide)) (ls0 := [.ref p, .ref 11, .int w, .int v41, .null, .null]) rfl (Nat.le_of_ble_eq_true rfl) (Nat.le_of_ble_eq_true rfl) rfl (to_rcs rfl rfl) rfl ?_)))))))
      have j_56 := (PLs_f (fun a i z => W_n W52 (by /-r37-/ omega) rfl) (PLs_f (fun a i z => F_n F44 (show ¬ (a < 0) by omega) rfl) g13))
      have kn_57 : KST M53 12 13 14 15 ca sg K := KST_f (fun i => (W_j W52 (F_nl F44 (show ¬ (12 < 0) by decide) rfl))) (fun i => (W_n W52 (by omega) (F_n F44 (show ¬ (13 < 0) by decide) rfl))) (fun i => (W_n W52 (by omega) (F_n F44 (show ¬ (14 < 0) by decide) rfl))) (fun i => (W_j W52 (F_nl F44 (show ¬ (15 < 0) by decide) rfl))) g14
      refine E_4 hX (dp1 hd (by decide)) hG54 hp (by omega) (by omega) (by omega) (by omega) j_56 kn_57 (p := p) (w := w) (y := v41) (sg := sg) (ca := ca) (K := K) (fun r58 M62 hG60 F59 p_61 => ?_)
      have F63 := FR.c F55 F59 tg_142
      have z_64 := OA9_e (f := x_fF sg w.toInt) (h := x8.toInt) p_61 (by omega) (by omega)
      have z_65 := x_oa_b (Q := K) (w := w.toInt) (nw := sg.2.2.1.toNat) (h := v41.toInt) (by omega)
      refine s_ias (pc := 114) rw_2_114 hG60 rfl (n := 24) rfl (A := x8.toInt) rfl (by omega) (by omega) (fun M67 W66 => ?_)
      have hG68 := g_wf hG60 W66 rfl rfl (by decide)
      have F69 := FR.w F63 W66 (show 36 ≤ 38 ∧ 38 ≤ 38 by decide)
      refine s_inc (pc := 115) rw_2_115 (ls2 := fun v => [.ref 36, .ref p, .ref 11, .int c, .int w, .int x5, .int x6, .int x7, .int v, .int v41]) rfl rfl (fun _ => rfl) (A := x8.toInt) (B := 1) rfl rfl (by omega) (fun v70 e71 => to_go (pc := 118) rw_2_118 ?_)
      have j_72 := (PLs_f (fun a i z => W_n W66 (by /-r38-/ omega) rfl) (PLs_f (fun a i z => F_n F59 (show ¬ (a < 0) by omega) rfl) j_56))
      have kn_73 : KST M67 12 13 14 15 ca sg K := KST_f (fun i => (W_j W66 (F_nl F59 (show ¬ (12 < 0) by decide) rfl))) (fun i => (W_n W66 (by omega) (F_n F59 (show ¬ (13 < 0) by decide) rfl))) (fun i => (W_n W66 (by omega) (F_n F59 (show ¬ (14 < 0) by decide) rfl))) (fun i => (W_j W66 (F_nl F59 (show ¬ (15 < 0) by decide) rfl))) kn_57
      exact ih M67 x5 x6 x7 v70 (.int v41) hG68 F69 (by omega) (by omega) (by omega) (by omega) (by omega) (by omega) (by omega) (by omega) (by omega) (by omega) (by omega) (by omega) j_72 kn_73 g15 (CU5_s g16 (by omega) (by omega) (fun i e => (W_n W66 (by omega) (F_n F59 (show ¬ (37 < 0) by decide) (W_n W52 (by omega) (F_n F44 (show ¬ (37 < 0) by decide) rfl))))) (fun i e => (W_n W66 (by omega) (F_n F59 (show ¬ (38 < 0) by decide) (W_n W52 (by omega) (F_n F44 (show ¬ (38 < 0) by decide) rfl))))) ((W_n W66 (by omega) (F_n F59 (show ¬ (37 < 0) by decide) (W_e W52)))) ((W_e W66)) z_51 z_64 (x_oa_b (by omega))) (by omega)
set_option maxRecDepth 4000 in
set_option maxHeartbeats 0 in
theorem U_2_1 {X : mm_X} {d : Nat} {M : mm_M} {Q : Option Value → mm_M → Prop} {p : Nat} {c : Int32} {w : Int32} {sg : x_S} {ca : Int} {K : x_Kn} (hX : g_X X) (hd : 27 ≤ d) (hp : p = 49 ∨ p = 58) (q1 : c.toInt = ca) (q2 : 0 ≤ ca) (q3 : ca ≤ 30) (q4 : 0 ≤ w.toInt) (q5 : w.toInt ≤ 11) (q6 : w.toInt < sg.2.2.1) (q7 : PLs M p sg) (q8 : KST M 12 13 14 15 ca sg K) (h : ∀ (r : Int32) (M1 : mm_M), g_G M1 → FR md_b M M1 → (x_QB sg K ca w.toInt r.toInt) → Q (some (.int r)) M1) : ∀ nn9 : Nat, (∀ (N : mm_M) (x5 : Int32) (x6 : Int32) (x7 : Int32) (u8 : Value) (u9 : Value), g_G N → FR md_b M N → (0 ≤ x7.toInt) → (x7.toInt ≤ 30) → (x7.toInt ≤ ca) → (c.toInt = ca) → (0 ≤ ca) → (ca ≤ 30) → (0 ≤ w.toInt) → (w.toInt ≤ 11) → (w.toInt < sg.2.2.1) → (x5.toInt = x_row sg 7 w.toInt) → (PLs N p sg) → (KST N 12 13 14 15 ca sg K) → (x6 = x_btq (fun c => decide (x_hw K c w.toInt = 0)) (x7.toInt).toNat) → 30 - x7.toInt < (nn9 : Int) → mm_T X d 2 15 [.ref 36, .ref p, .ref 11, .int c, .int w, .int x5, .int x6, .int x7, u8, u9] [] N Q) := by
  intro nn9
  induction nn9 with
  | zero =>
    intro N x5 x6 x7 u8 u9 hG F0 g1 g2 g3 g4 g5 g6 g7 g8 g9 g10 g11 g12 g13 hm
    exfalso; omega
  | succ nn9 ih =>
    intro N x5 x6 x7 u8 u9 hG F0 g1 g2 g3 g4 g5 g6 g7 g8 g9 g10 g11 g12 g13 hm
    have z_74 := g11.2.1
    have z_75 := g11.2.2.1
    have z_76 := g11.2.2.2.1
    have z_77 := g11.1
    have z_78 := z_77.1
    have z_79 := z_77.2.1
    have z_80 := z_77.2.2.1
    have z_81 := z_77.2.2.2.1
    have z_82 := z_77.2.2.2.2.1
    have z_83 := z_77.2.2.2.2.2.1
    have z_84 := g11.1.2.2.2.2.2.2.1 w.toInt (by omega) (by omega)
    have z_85 := g11.1.2.2.2.2.2.2.2 (x_row sg 7 w.toInt) (by omega) (by omega)
    have z_86 : x_fF sg w.toInt = x_row sg 3 (x_row sg 7 w.toInt) := rfl
    have z_87 : x_fW sg w.toInt = x_row sg 4 (x_row sg 7 w.toInt) - x_row sg 3 (x_row sg 7 w.toInt) + 1 := rfl
    have z_88 := x_fK_e (s := sg) (w := w.toInt) (by omega)
    have z_89 := g11.1.2.2.2.2.2.2.1 w.toInt (by omega) (by omega)
    refine to_i (pc := 15) rw_2_15 rfl (to_in (pc := 17) rw_2_17 rfl (b_cge (pc := 18) rw_2_18 (A := x7.toInt) (B := c.toInt) rfl rfl (fun h90 => ?_) (fun h90 => ?_)))
    · refine to_an (pc := 47) rw_2_47 rfl (to_i (pc := 48) rw_2_48 rfl (s_v (pc := 50) rw_2_50 (dp0 hd (by decide)) (ls0 := [.ref p, .int x5]) rfl (Nat.le_of_ble_eq_true rfl) (Nat.le_of_ble_eq_true rfl) rfl (to_rc rfl rfl rfl (g_o hG (by rcases hp with rfl | rfl <;> rfl))) rfl (to_an (pc := 0) rw_47_0 rfl (s_gR (pc := 1) rw_47_1 hG (by rcases hp with rfl | rfl <;> rfl) (v := (p + 4)) (by rcases hp with rfl | rfl <;> rfl) (to_in (pc := 4) rw_47_4 rfl (s_ial (pc := 5) rw_47_5 hG (by rcases hp with rfl | rfl <;> rfl) (n := 8) (by rcases hp with rfl | rfl <;> rfl) (by rcases hp with rfl | rfl <;> rfl) (A := x5.toInt) rfl (by omega) (by omega) (lo := 0) (hi := 63) (by rcases hp with rfl | rfl <;> rfl) (by rcases hp with rfl | rfl <;> rfl) (fun v91 w_92 _ _ => ?_)))))))
      have z_93 := PLs_r g11 4 (by decide) (by decide) (k := x5.toInt) (by omega) (by omega) w_92
      have z_94 := x_row_v (s := sg) (r := 4) (x := x5.toInt) (y := x_row sg 7 w.toInt) (by omega)
      refine to_an (pc := 6) rw_47_6 rfl (s_gR (pc := 7) rw_47_7 hG (by rcases hp with rfl | rfl <;> rfl) (v := (p + 3)) (by rcases hp with rfl | rfl <;> rfl) (to_in (pc := 10) rw_47_10 rfl (s_ial (pc := 11) rw_47_11 hG (by rcases hp with rfl | rfl <;> rfl) (n := 8) (by rcases hp with rfl | rfl <;> rfl) (by rcases hp with rfl | rfl <;> rfl) (A := x5.toInt) rfl (by omega) (by omega) (lo := 0) (hi := 59) (by rcases hp with rfl | rfl <;> rfl) (by rcases hp with rfl | rfl <;> rfl) (fun v95 w_96 _ _ => ?_))))
      have z_97 := PLs_r g11 3 (by decide) (by decide) (k := x5.toInt) (by omega) (by omega) w_96
      have z_98 := x_row_v (s := sg) (r := 3) (x := x5.toInt) (y := x_row sg 7 w.toInt) (by omega)
      refine s_sub (pc := 12) rw_47_12 (A := v91.toInt) (B := v95.toInt) rfl rfl (by omega) (fun v99 e100 => to_c (pc := 13) rw_47_13 (x := (1 : Int32)) rfl rfl (s_add (pc := 14) rw_47_14 (A := v99.toInt) (B := 1) rfl rfl (by omega) (fun v101 e102 => to_r0 (pc := 15) rw_47_15 (to_c (pc := 53) rw_2_53 (x := (24 : Int32)) rfl rfl (s_min (pc := 55) rw_2_55 rfl (A := v101.toInt) (B := 24) rfl rfl (fun v103 _ _ _ => to_is (pc := 58) rw_2_58 (ls2 := [.ref 36, .ref p, .ref 11, .int c, .int w, .int x5, .int x6, .int v103, u8, u9]) rfl rfl (to_c (pc := 60) rw_2_60 (x := (0 : Int32)) rfl rfl (to_is (pc := 61) rw_2_61 (ls2 := [.ref 36, .ref p, .ref 11, .int c, .int w, .int x5, .int x6, .int v103, .int (0 : Int32), u9]) rfl rfl ?_))))))))
      have k_104 : (0 : Int32).toInt = 0 := rfl
      exact (U_2_0 (p := p) (c := c) (w := w) (sg := sg) (ca := ca) (K := K) hX hd hp q1 q2 q3 q4 q5 q6 q7 q8 h ((24 - (0 : Int32).toInt).toNat + 1)) N x5 x6 v103 (0 : Int32) (u9) hG F0 (by omega) (by omega) (by omega) (by omega) (by omega) (by omega) (by omega) (by omega) (by omega) (by omega) (by omega) (by omega) g11 g12 (x_wo_e9 (n := x7.toInt) g13 (by omega)) (CU5_0 (by first | rfl | omega)) (by omega)
    · refine to_an (pc := 21) rw_2_21 rfl (to_i (pc := 22) rw_2_22 rfl (to_i (pc := 24) rw_2_24 rfl (s_v (pc := 26) rw_2_26 (dp0 hd (by decide)) (ls0 := [.ref 11, .int x7, .int w]) rfl (Nat.le_of_ble_eq_true rfl) (Nat.le_of_ble_eq_true rfl) rfl (to_rc rfl rfl rfl (g_o hG rfl)) rfl (to_an (pc := 0) rw_13_0 rfl (s_gR (pc := 1) rw_13_1 hG rfl (v := 13) rfl (to_in (pc := 4) rw_13_4 rfl (s_ial (pc := 5) rw_13_5 hG rfl (n := 30) rfl rfl (A := x7.toInt) rfl (by omega) (by omega) (lo := -2147483648) (hi := 2147483647) rfl rfl (fun v105 w_106 _ _ => ?_))))))))
      have z_107 : v105 = K.2.1 (x7.toInt).toNat := KST_lw (K := K) g12 (by omega) (by omega) w_106
      refine to_in (pc := 6) rw_13_6 rfl (s_opE (pc := 7) rw_13_7 (w := v105 >>> w) rfl (fun v108 e109 => to_c (pc := 8) rw_13_8 (x := (1 : Int32)) rfl rfl (s_and (pc := 9) rw_13_9 (B := 1) rfl (by omega) (fun v110 e111 _ _ => ?_))))
      have z_112 : x_hw K (x7.toInt).toNat w.toInt = v110.toInt := x_hw_e z_107 rfl e109 e111
      refine b_ieq (pc := 10) rw_13_10 (A := v110.toInt) rfl (fun h113 => ?_) (fun h113 => ?_)
      · refine to_c (pc := 17) rw_13_17 (x := (0 : Int32)) rfl rfl (s_r1 (pc := 18) rw_13_18 (A := 0) rfl (by decide) (b_ine_f (pc := 29) rw_2_29 (A := 0) rfl (by decide) (to_i (pc := 32) rw_2_32 rfl (to_c (pc := 34) rw_2_34 (x := (1 : Int32)) rfl rfl (to_i (pc := 35) rw_2_35 rfl (s_opE (pc := 37) rw_2_37 (w := (1 : Int32) <<< x7) rfl (fun v114 e115 => s_opE (pc := 38) rw_2_38 (w := x6 ||| v114) rfl (fun v116 e117 => to_is (pc := 39) rw_2_39 (ls2 := [.ref 36, .ref p, .ref 11, .int c, .int w, .int x5, .int v116, .int x7, u8, u9]) rfl rfl (s_inc (pc := 41) rw_2_41 (ls2 := fun v => [.ref 36, .ref p, .ref 11, .int c, .int w, .int x5, .int v116, .int v, u8, u9]) rfl rfl (fun _ => rfl) (A := x7.toInt) (B := 1) rfl rfl (by omega) (fun v118 e119 => to_go (pc := 44) rw_2_44 ?_))))))))))
        exact ih N x5 v116 v118 (u8) (u9) hG F0 (by omega) (by omega) (by omega) (by omega) (by omega) (by omega) (by omega) (by omega) (by omega) (by omega) g11 g12 (x_btq_s (f := (fun c => decide (x_hw K c w.toInt = 0))) g13 (by omega) (by omega) (x_btq_y (f := (fun c => decide (x_hw K c w.toInt = 0))) (by omega) (decide_eq_true (by omega)) e115 rfl e117)) (by omega)
      · refine to_c (pc := 13) rw_13_13 (x := (1 : Int32)) rfl rfl (to_go (pc := 14) rw_13_14 (s_r1 (pc := 18) rw_13_18 (A := 1) rfl (by decide) (b_ine_t (pc := 29) rw_2_29 (A := 1) rfl (by decide) (s_inc (pc := 41) rw_2_41 (ls2 := fun v => [.ref 36, .ref p, .ref 11, .int c, .int w, .int x5, .int x6, .int v, u8, u9]) rfl rfl (fun _ => rfl) (A := x7.toInt) (B := 1) rfl rfl (by omega) (fun v120 e121 => to_go (pc := 44) rw_2_44 ?_)))))
        exact ih N x5 x6 v120 (u8) (u9) hG F0 (by omega) (by omega) (by omega) (by omega) (by omega) (by omega) (by omega) (by omega) (by omega) (by omega) g11 g12 (x_btq_s (f := (fun c => decide (x_hw K c w.toInt = 0))) g13 (by omega) (by omega) (x_btq_n (f := (fun c => decide (x_hw K c w.toInt = 0))) (fun z => by have := of_decide_eq_true z; omega) rfl)) (by omega)
set_option maxRecDepth 4000 in
set_option maxHeartbeats 0 in
theorem E_2 {X : mm_X} {d : Nat} {M : mm_M} {Q : Option Value → mm_M → Prop} {p : Nat} {c : Int32} {w : Int32} {sg : x_S} {ca : Int} {K : x_Kn} (hX : g_X X) (hd : 27 ≤ d) (hG : g_G M) (hp : p = 49 ∨ p = 58) (q1 : c.toInt = ca) (q2 : 0 ≤ ca) (q3 : ca ≤ 30) (q4 : 0 ≤ w.toInt) (q5 : w.toInt ≤ 11) (q6 : w.toInt < sg.2.2.1) (q7 : PLs M p sg) (q8 : KST M 12 13 14 15 ca sg K) (h : ∀ (r : Int32) (M1 : mm_M), g_G M1 → FR md_b M M1 → (x_QB sg K ca w.toInt r.toInt) → Q (some (.int r)) M1) : mm_T X d 2 0 [.ref 36, .ref p, .ref 11, .int c, .int w, .null, .null, .null, .null, .null] [] M Q := by
  have F0 : FR md_b M M := FR.rf
  have z_122 := q7.2.1
  have z_123 := q7.2.2.1
  have z_124 := q7.2.2.2.1
  have z_125 := q7.1
  have z_126 := z_125.1
  have z_127 := z_125.2.1
  have z_128 := z_125.2.2.1
  have z_129 := z_125.2.2.2.1
  have z_130 := z_125.2.2.2.2.1
  have z_131 := z_125.2.2.2.2.2.1
  have z_132 := q7.1.2.2.2.2.2.2.1 w.toInt (by omega) (by omega)
  have z_133 := q7.1.2.2.2.2.2.2.2 (x_row sg 7 w.toInt) (by omega) (by omega)
  have z_134 : x_fF sg w.toInt = x_row sg 3 (x_row sg 7 w.toInt) := rfl
  have z_135 : x_fW sg w.toInt = x_row sg 4 (x_row sg 7 w.toInt) - x_row sg 3 (x_row sg 7 w.toInt) + 1 := rfl
  have z_136 := x_fK_e (s := sg) (w := w.toInt) (by omega)
  have z_137 := q7.1.2.2.2.2.2.2.1 w.toInt (by omega) (by omega)
  refine to_an (pc := 0) rw_2_0 rfl (s_gR (pc := 1) rw_2_1 hG (by rcases hp with rfl | rfl <;> rfl) (v := (p + 7)) (by rcases hp with rfl | rfl <;> rfl) (to_i (pc := 4) rw_2_4 rfl (s_ial (pc := 6) rw_2_6 hG (by rcases hp with rfl | rfl <;> rfl) (n := 12) (by rcases hp with rfl | rfl <;> rfl) (by rcases hp with rfl | rfl <;> rfl) (A := w.toInt) rfl (by omega) (by omega) (lo := 0) (hi := 7) (by rcases hp with rfl | rfl <;> rfl) (by rcases hp with rfl | rfl <;> rfl) (fun v138 w_139 _ _ => ?_))))
  have z_140 := PLs_v q7 7 (by decide) (by decide) (k := w.toInt) (by omega) (by omega) w_139
  refine to_is (pc := 7) rw_2_7 (ls2 := [.ref 36, .ref p, .ref 11, .int c, .int w, .int v138, .null, .null, .null, .null]) rfl rfl (to_c (pc := 9) rw_2_9 (x := (0 : Int32)) rfl rfl (to_is (pc := 10) rw_2_10 (ls2 := [.ref 36, .ref p, .ref 11, .int c, .int w, .int v138, .int (0 : Int32), .null, .null, .null]) rfl rfl (to_c (pc := 12) rw_2_12 (x := (0 : Int32)) rfl rfl (to_is (pc := 13) rw_2_13 (ls2 := [.ref 36, .ref p, .ref 11, .int c, .int w, .int v138, .int (0 : Int32), .int (0 : Int32), .null, .null]) rfl rfl ?_))))
  have k_141 : (0 : Int32).toInt = 0 := rfl
  exact (U_2_1 (p := p) (c := c) (w := w) (sg := sg) (ca := ca) (K := K) hX hd hp q1 q2 q3 q4 q5 q6 q7 q8 h ((30 - (0 : Int32).toInt).toNat + 1)) M v138 (0 : Int32) (0 : Int32) (.null) (.null) hG F0 (by omega) (by omega) (by omega) (by omega) (by omega) (by omega) (by omega) (by omega) (by omega) (by omega) q7 q8 (x_btq_00 (by first | rfl | omega) rfl) (by omega)
set_option maxRecDepth 4000 in
set_option maxHeartbeats 0 in
theorem E_134 {X : mm_X} {d : Nat} {M : mm_M} {Q : Option Value → mm_M → Prop} {n : Int32} {w : Int32} {p : Nat} {pz : Nat} {q : Nat} {qz : Nat} {sg : x_S} {NN : x_N} {nz : Int} {ca : Int} (hX : g_X X) (hd : 28 ≤ d) (hG : g_G M) (hp : p = 49 ∨ p = 58) (hpz : pz = 49 ∨ pz = 58) (hq : q = 67 ∨ q = 72) (hqz : qz = 67 ∨ qz = 72) (q1 : g_PQ M p pz q qz) (q2 : PLs M p sg) (q3 : CW M p sg) (q4 : g_W2 X) (q5 : NTc M NN nz) (q6 : x_vn sg ca NN nz) (q7 : (M.2.1 6 0).toInt = nz) (q8 : (M.2.1 0 12).toInt = ca) (q9 : ca ≤ 30) (h : ∀ (r : Int32) (M1 : mm_M), g_G M1 → FR md_kb M M1 → (x_best sg NN nz ca n.toInt w.toInt r.toInt) → Q (some (.int r)) M1) : mm_T X d 134 0 [.ref 0, .int n, .int w] [] M Q := by
  have F0 : FR md_kb M M := FR.rf
  have b_1 := g_b hG (a := 6) (i := 0) (lo := 0) (hi := 150) rfl rfl
  have b_2 := g_b hG (a := 0) (i := 12) (lo := 0) (hi := 30) rfl rfl
  have z_3 := q2.2.1
  have z_4 := q2.2.2.1
  have z_5 := q2.2.2.2.1
  have z_6 := q2.1
  have z_7 := z_6.1
  have z_8 := z_6.2.1
  have z_9 := z_6.2.2.1
  have z_10 := z_6.2.2.2.1
  have z_11 := z_6.2.2.2.2.1
  have z_12 := z_6.2.2.2.2.2.1
  have b_13 := g_b hG (a := p) (i := 2) (lo := 0) (hi := 8) (by rcases hp with rfl | rfl <;> rfl) (by rcases hp with rfl | rfl <;> rfl)
  have b_14 := g_b hG (a := p) (i := 3) (lo := 0) (hi := 12) (by rcases hp with rfl | rfl <;> rfl) (by rcases hp with rfl | rfl <;> rfl)
  refine to_an (pc := 0) rw_134_0 rfl (to_in (pc := 1) rw_134_1 rfl (s_v (pc := 2) rw_134_2 (dp0 hd (by decide)) (ls0 := [.ref 0, .int n]) rfl (Nat.le_of_ble_eq_true rfl) (Nat.le_of_ble_eq_true rfl) rfl (to_rc rfl rfl rfl (g_o hG rfl)) rfl (to_in (pc := 0) rw_139_0 rfl (b_ilt (pc := 1) rw_139_1 (A := n.toInt) rfl (fun h15 => ?_) (fun h15 => ?_)))))
  · refine to_c (pc := 19) rw_139_19 (x := (0 : Int32)) rfl rfl (s_r1 (pc := 20) rw_139_20 (A := 0) rfl (by decide) (b_ieq_t (pc := 5) rw_134_5 (A := 0) rfl (by decide) (to_c (pc := 19) rw_134_19 (x := (-1 : Int32)) rfl rfl (to_r0 (pc := 20) rw_134_20 ?_))))
    have k_16 : (-1 : Int32).toInt = -1 := rfl
    exact h (-1 : Int32) M hG F0 (x_best_n (by omega) (by first | rfl | omega))
  · refine to_in (pc := 4) rw_139_4 rfl (to_an (pc := 5) rw_139_5 rfl (s_gR (pc := 6) rw_139_6 hG rfl (v := 6) rfl (tt_gI (pc := 9) rw_139_9 (g_o hG rfl) (v := (M.2.1 6 0)) rfl (b_cgt (pc := 12) rw_139_12 (A := n.toInt) (B := (M.2.1 6 0).toInt) rfl rfl (fun h17 => ?_) (fun h17 => ?_)))))
    · refine to_c (pc := 19) rw_139_19 (x := (0 : Int32)) rfl rfl (s_r1 (pc := 20) rw_139_20 (A := 0) rfl (by decide) (b_ieq_t (pc := 5) rw_134_5 (A := 0) rfl (by decide) (to_c (pc := 19) rw_134_19 (x := (-1 : Int32)) rfl rfl (to_r0 (pc := 20) rw_134_20 ?_))))
      have k_18 : (-1 : Int32).toInt = -1 := rfl
      exact h (-1 : Int32) M hG F0 (x_best_n (by omega) (by first | rfl | omega))
    · refine to_c (pc := 15) rw_139_15 (x := (1 : Int32)) rfl rfl (to_go (pc := 16) rw_139_16 (s_r1 (pc := 20) rw_139_20 (A := 1) rfl (by decide) (b_ieq_f (pc := 5) rw_134_5 (A := 1) rfl (by decide) (to_an (pc := 8) rw_134_8 rfl (tt_gR (pc := 9) rw_134_9 (g_o hG rfl) q1.1 (to_in (pc := 12) rw_134_12 rfl (s_v (pc := 13) rw_134_13 (dp0 hd (by decide)) (ls0 := [.ref p, .int w]) rfl (Nat.le_of_ble_eq_true rfl) (Nat.le_of_ble_eq_true rfl) rfl (to_rc rfl rfl rfl (g_o hG (by rcases hp with rfl | rfl <;> rfl))) rfl (to_in (pc := 0) rw_44_0 rfl (b_ilt (pc := 1) rw_44_1 (A := w.toInt) rfl (fun h19 => ?_) (fun h19 => ?_))))))))))
      · refine to_c (pc := 16) rw_44_16 (x := (0 : Int32)) rfl rfl (s_r1 (pc := 17) rw_44_17 (A := 0) rfl (by decide) (b_ine_f (pc := 16) rw_134_16 (A := 0) rfl (by decide) (to_c (pc := 19) rw_134_19 (x := (-1 : Int32)) rfl rfl (to_r0 (pc := 20) rw_134_20 ?_))))
        have k_20 : (-1 : Int32).toInt = -1 := rfl
        exact h (-1 : Int32) M hG F0 (x_best_n (by omega) (by first | rfl | omega))
      · refine to_in (pc := 4) rw_44_4 rfl (to_an (pc := 5) rw_44_5 rfl (tt_gI (pc := 6) rw_44_6 (g_o hG (by rcases hp with rfl | rfl <;> rfl)) (v := (M.2.1 p 3)) rfl (b_cge (pc := 9) rw_44_9 (A := w.toInt) (B := (M.2.1 p 3).toInt) rfl rfl (fun h21 => ?_) (fun h21 => ?_))))
        · refine to_c (pc := 16) rw_44_16 (x := (0 : Int32)) rfl rfl (s_r1 (pc := 17) rw_44_17 (A := 0) rfl (by decide) (b_ine_f (pc := 16) rw_134_16 (A := 0) rfl (by decide) (to_c (pc := 19) rw_134_19 (x := (-1 : Int32)) rfl rfl (to_r0 (pc := 20) rw_134_20 ?_))))
          have k_22 : (-1 : Int32).toInt = -1 := rfl
          exact h (-1 : Int32) M hG F0 (x_best_n (by omega) (by first | rfl | omega))
        · refine to_c (pc := 12) rw_44_12 (x := (1 : Int32)) rfl rfl (to_go (pc := 13) rw_44_13 (s_r1 (pc := 17) rw_44_17 (A := 1) rfl (by decide) (b_ine_t (pc := 16) rw_134_16 (A := 1) rfl (by decide) (to_an (pc := 21) rw_134_21 rfl (to_in (pc := 22) rw_134_22 rfl (s_v (pc := 23) rw_134_23 (dp0 hd (by decide)) (ls0 := [.ref 0, .int n]) rfl (Nat.le_of_ble_eq_true rfl) (Nat.le_of_ble_eq_true rfl) rfl (to_rc rfl rfl rfl (g_o hG rfl)) rfl (to_an (pc := 0) rw_141_0 rfl (s_gR (pc := 1) rw_141_1 hG rfl (v := 11) rfl (to_an (pc := 4) rw_141_4 rfl (tt_gR (pc := 5) rw_141_5 (g_o hG rfl) q1.1 (to_an (pc := 8) rw_141_8 rfl ?_)))))))))))
          refine s_gR (pc := 9) rw_141_9 hG rfl (v := 6) rfl (to_in (pc := 12) rw_141_12 rfl (s_v (pc := 13) rw_141_13 (dp1 hd (by decide)) (ls0 := [.ref 11, .ref p, .ref 6, .int n, .null]) rfl (Nat.le_of_ble_eq_true rfl) (Nat.le_of_ble_eq_true rfl) rfl (to_rc rfl rfl rfl (g_o hG rfl)) rfl (E_8 hX (dp2 hd (by decide)) hG hp (by omega) (by omega) (by omega) q3 q2 q4 q5 q6 (by omega) (p := p) (n := n) (sg := sg) (NN := NN) (nz := nz) (ca := ca) (fun M26 hG24 F23 p_25 => ?_))))
          have F27 := FR.c F0 F23 tg_143
          refine to_rv (pc := 16) rw_141_16 (to_an (pc := 26) rw_134_26 rfl (s_gR (pc := 27) rw_134_27 hG24 rfl (v := 36) rfl (to_an (pc := 30) rw_134_30 rfl ?_)))
          have j_28 := (PQ_f F23 q1)
          refine tt_gR (pc := 31) rw_134_31 (g_o hG24 rfl) j_28.1 (to_an (pc := 34) rw_134_34 rfl (s_gR (pc := 35) rw_134_35 hG24 rfl (v := 11) rfl (to_an (pc := 38) rw_134_38 rfl ?_)))
          have c_29 : M26.2.1 0 12 = (M.2.1 0 12) := (F_n F23 (show ¬ (11 ≤ 0 ∧ 0 ≤ 16) by decide) rfl)
          refine tt_gI (pc := 39) rw_134_39 (g_o hG24 rfl) (v := (M.2.1 0 12)) c_29 (to_in (pc := 42) rw_134_42 rfl (s_v (pc := 43) rw_134_43 (dp0 hd (by decide)) (ls0 := [.ref 36, .ref p, .ref 11, .int (M.2.1 0 12), .int w, .null, .null, .null, .null, .null]) rfl (Nat.le_of_ble_eq_true rfl) (Nat.le_of_ble_eq_true rfl) rfl (to_rc rfl rfl rfl (g_o hG24 rfl)) rfl ?_))
          have j_30 := (PLs_f (fun a i z => F_n F23 (show ¬ (11 ≤ a ∧ a ≤ 16) by omega) rfl) q2)
          refine E_2 hX (dp1 hd (by decide)) hG24 hp (by omega) (by omega) (by omega) (by omega) (by omega) (by omega) j_30 p_25 (p := p) (c := (M.2.1 0 12)) (w := w) (sg := sg) (ca := ca) (K := (x_kn sg NN (n.toInt).toNat)) (fun r31 M35 hG33 F32 p_34 => ?_)
          have F36 := FR.c F27 F32 tg_144
          refine to_r0 (pc := 46) rw_134_46 ?_
          exact h r31 M35 hG33 F36 (x_best_y (by omega) p_34)
