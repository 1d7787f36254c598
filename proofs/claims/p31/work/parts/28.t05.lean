theorem tg_123 : ∀ a i : Nat, (a = 1 ∧ (i = 10 ∨ i = 11)) → (a = 1 ∧ 6 ≤ i ∧ i ≤ 11 ∨ a = 33) := fun a i z => by omega
theorem tg_124 : ∀ a i : Nat, (a = 1 ∧ 6 ≤ i ∧ i ≤ 9) → (a = 1 ∧ 6 ≤ i ∧ i ≤ 11 ∨ a = 33) := fun a i z => by omega
theorem tg_125 : ∀ a i : Nat, (a < 0) → (a = 1 ∧ 6 ≤ i ∧ i ≤ 11 ∨ a = 33) := fun a i z => by omega
set_option maxRecDepth 4000 in
set_option maxHeartbeats 0 in
theorem E_103 {X : mm_X} {d : Nat} {M : mm_M} {Q : Option Value → mm_M → Prop} {p : Nat} {s : Int32} {t : Nat → Int} {nn : Int} {a : Int} {sg : x_S} (hX : g_X X) (hd : 2 ≤ d) (hG : g_G M) (hp : p = 49 ∨ p = 58) (q1 : 0 ≤ s.toInt) (q2 : s.toInt ≤ 39) (q3 : CS M t nn) (q4 : (M.2.1 1 9).toInt = a) (q5 : PLs M p sg) (h : ∀ (r : Int32) (M1 : mm_M), g_G M1 → FR md_w103 M M1 → (0 ≤ r.toInt) → (r.toInt ≤ 1) → CS M1 t nn → (r.toInt = 1 → a < (M1.2.1 1 9).toInt) → ((r.toInt = 1 → ∀ k : Int → x_WR, x_wnd t nn sg a k = k (M1.2.1 1 9).toInt)) → ((r.toInt = 0 → ∀ k : Int → x_WR, x_wnd t nn sg a k = Sum.inl ((M1.2.1 1 10).toInt, (M1.2.1 1 11).toInt))) → Q (some (.int r)) M1) : mm_T X d 103 0 [.ref 28, .ref 1, .ref p, .ref 11, .int s, .null, .null, .null, .null] [] M Q := by
  have F0 : FR md_w103 M M := FR.rf
  have c_1 := CS_u q3 (a := a) (by omega)
  unfold x_C at c_1
  have z_2 := c_1.2
  have z_3 := q5.2.1
  have z_4 := q5.2.2.1
  have z_5 := q5.2.2.2.1
  have z_6 := q5.1
  have z_7 := z_6.1
  have z_8 := z_6.2.1
  have z_9 := z_6.2.2.1
  have z_10 := z_6.2.2.2.1
  have z_11 := z_6.2.2.2.2.1
  have z_12 := z_6.2.2.2.2.2.1
  have b_13 := g_b hG (a := p) (i := 0) (lo := 10) (hi := 60) (by rcases hp with rfl | rfl <;> rfl) (by rcases hp with rfl | rfl <;> rfl)
  have b_14 := g_b hG (a := p) (i := 2) (lo := 0) (hi := 8) (by rcases hp with rfl | rfl <;> rfl) (by rcases hp with rfl | rfl <;> rfl)
  have b_15 := g_b hG (a := p) (i := 3) (lo := 0) (hi := 12) (by rcases hp with rfl | rfl <;> rfl) (by rcases hp with rfl | rfl <;> rfl)
  refine to_c (pc := 0) rw_103_0 (x := (0 : Int32)) rfl rfl ?_
  refine to_is (pc := 1) rw_103_1 (ls2 := [.ref 28, .ref 1, .ref p, .ref 11, .int s, .int (0 : Int32), .null, .null, .null]) rfl rfl ?_
  refine to_an (pc := 3) rw_103_3 rfl ?_
  refine tt_gI (pc := 4) rw_103_4 (g_o hG (by rcases hp with rfl | rfl <;> rfl)) (v := (M.2.1 p 0)) rfl ?_
  refine to_c (pc := 7) rw_103_7 (x := (1 : Int32)) rfl rfl ?_
  refine s_sub (pc := 8) rw_103_8 (A := (M.2.1 p 0).toInt) (B := 1) rfl rfl (by omega) (fun v16 e17 => ?_)
  refine to_is (pc := 9) rw_103_9 (ls2 := [.ref 28, .ref 1, .ref p, .ref 11, .int s, .int (0 : Int32), .int v16, .null, .null]) rfl rfl ?_
  refine to_an (pc := 11) rw_103_11 rfl ?_
  refine tt_gI (pc := 12) rw_103_12 (g_o hG rfl) (v := (M.2.1 1 7)) rfl ?_
  refine to_c (pc := 15) rw_103_15 (x := (3 : Int32)) rfl rfl ?_
  refine b_cne (pc := 16) rw_103_16 (A := (M.2.1 1 7).toInt) (B := 3) rfl rfl (fun h18 => ?_) (fun h18 => ?_)
  · have z_19 : ¬ x_kind t nn a = 2 := by omega
    clear c_1
    refine to_an (pc := 109) rw_103_109 rfl ?_
    refine to_c (pc := 110) rw_103_110 (x := (0 : Int32)) rfl rfl ?_
    refine to_i (pc := 111) rw_103_111 rfl ?_
    refine s_v (pc := 113) rw_103_113 (dp0 hd (by decide)) (ls0 := [.ref 1, .int (0 : Int32), .int v16]) rfl (Nat.le_of_ble_eq_true rfl) (Nat.le_of_ble_eq_true rfl) rfl (to_rc rfl rfl rfl (g_o hG rfl)) rfl ?_
    have k_20 : (0 : Int32).toInt = 0 := rfl
    refine E_88f hX (dp1 hd (by decide)) hG q3 (by omega) (l := (0 : Int32)) (m := v16) (t := t) (nn := nn) (a := a) (fun r21 M31 hG23 F22 p_24 p_25 p_26 p_27 p_28 p_29 p_30 => ?_)
    have F32 := FR.c F0 F22 tg_123
    rcases (show r21.toInt = 0 ∨ r21.toInt = 1 by omega) with h33 | h33
    · skip
      have p_34 := p_27 (by omega)
      have p_35 := p_28 (by omega)
      clear p_26 p_27 p_28
      have z_36 := x_val_b (t := t) (nn := nn) (a := a)
      refine b_ine_f (pc := 116) rw_103_116 (A := r21.toInt) rfl (by omega) ?_
      refine to_c (pc := 119) rw_103_119 (x := (0 : Int32)) rfl rfl ?_
      refine s_r1 (pc := 120) rw_103_120 (A := 0) rfl (by decide) ?_
      have c_37 : M31.2.1 1 9 = (M.2.1 1 9) := (F_n F22 (show ¬ (1 = 1 ∧ (9 = 10 ∨ 9 = 11)) by decide) rfl)
      have t_38 : (M31.2.1 1 9).toInt = (M.2.1 1 9).toInt := congrArg Int32.toInt c_37
      have j_39 := (CS_f (tg_34 F22) q3)
      exact h (0 : Int32) M31 hG23 F32 (by decide) (by decide) j_39 (by omega) (fun z => absurd z (by decide)) (fun _ k9 => if g9 : x_kind t nn a = 3 then winl (by omega) (by omega) ((p_ndn (by omega)).trans (p_nb2 g9 (by omega))) else winl (by omega) (by omega) ((p_ndn (by omega)).trans (p_nb1 g9)))
    · skip
      have p_40 := p_26 (by omega)
      clear p_26 p_27 p_28
      have c_41 : M31.2.1 1 8 = (M.2.1 1 8) := (F_n F22 (show ¬ (1 = 1 ∧ (8 = 10 ∨ 8 = 11)) by decide) rfl)
      have z_42 := x_val_b (t := t) (nn := nn) (a := a) (by omega)
      refine b_ine_t (pc := 116) rw_103_116 (A := r21.toInt) rfl (by omega) ?_
      refine to_an (pc := 121) rw_103_121 rfl ?_
      refine s_gR (pc := 122) rw_103_122 hG23 rfl (v := 33) rfl ?_
      refine to_i (pc := 125) rw_103_125 rfl ?_
      refine to_dup2 (pc := 127) rw_103_127 ?_
      refine s_lalE (pc := 128) rw_103_128 hG23 rfl (n := 40) rfl (A := s.toInt) rfl (by omega) (by omega) (fun l43 w_44 => ?_)
      refine to_cl (pc := 129) rw_103_129 rfl (x := (1 : Int64)) rfl ?_
      refine to_i (pc := 130) rw_103_130 rfl ?_
      refine to_an (pc := 132) rw_103_132 rfl ?_
      refine tt_gI (pc := 133) rw_103_133 (g_o hG23 rfl) (v := (M.2.1 1 8)) c_41 ?_
      refine s_add (pc := 136) rw_103_136 (A := 0) (B := (M.2.1 1 8).toInt) rfl rfl (by omega) (fun v45 e46 => ?_)
      refine to_2s (pc := 137) rw_103_137 (v := ((1 : Int64) <<< (v45.toInt64 &&& 63))) rfl ?_
      refine to_2l (pc := 138) rw_103_138 (v := (l43 ||| ((1 : Int64) <<< (v45.toInt64 &&& 63)))) rfl ?_
      refine s_las (pc := 139) rw_103_139 hG23 rfl (n := 40) rfl (A := s.toInt) rfl (by omega) (by omega) (fun M48 W47 => ?_)
      have hG49 := g_wl hG23 W47
      have F50 := FR.wl F32 W47 (show 33 = 1 ∧ 6 ≤ (s.toInt).toNat ∧ (s.toInt).toNat ≤ 11 ∨ 33 = 33 by omega)
      refine to_an (pc := 140) rw_103_140 rfl ?_
      refine s_v (pc := 141) rw_103_141 (dp0 hd (by decide)) (ls0 := [.ref 1]) rfl (Nat.le_of_ble_eq_true rfl) (Nat.le_of_ble_eq_true rfl) rfl (to_rc rfl rfl rfl (g_o hG49 rfl)) rfl ?_
      have j_51 := (CS_f (fun a i z => W_l W47 rfl) (CS_f (tg_34 F22) q3))
      have c_52 : M48.2.1 1 9 = (M.2.1 1 9) := (W_l W47 (F_n F22 (show ¬ (1 = 1 ∧ (9 = 10 ∨ 9 = 11)) by decide) rfl))
      have t_53 : (M48.2.1 1 9).toInt = (M.2.1 1 9).toInt := congrArg Int32.toInt c_52
      refine E_83 hX (dp1 hd (by decide)) hG49 j_51 (by omega) (t := t) (nn := nn) (a := a) (fun M58 hG55 F54 p_56 p_57 => ?_)
      have F59 := FR.c F50 F54 tg_124
      refine to_c (pc := 144) rw_103_144 (x := (1 : Int32)) rfl rfl ?_
      refine s_r1 (pc := 145) rw_103_145 (A := 1) rfl (by decide) ?_
      have k_60 : (1 : Int32).toInt = 1 := rfl
      have z_61 := x_ns_lt (t := t) (nn := nn) (a := a) (by omega) (x_lt_k (t := t) (by omega) (by omega))
      exact h (1 : Int32) M58 hG55 F59 (by decide) (by decide) p_56 (by omega) (fun _ k9 => by rw [show (M58.2.1 1 9).toInt = (x_ns t nn a) by omega]; exact (p_ndn (by omega)).trans (p_nb (by omega) (by omega))) (fun z => absurd z (by decide))
  · have z_62 : x_kind t nn a = 2 ∧ x_val t nn a = (M.2.1 1 8).toInt := by omega
    clear c_1
    refine to_an (pc := 19) rw_103_19 rfl ?_
    refine to_an (pc := 20) rw_103_20 rfl ?_
    refine tt_gI (pc := 21) rw_103_21 (g_o hG rfl) (v := (M.2.1 1 8)) rfl ?_
    refine s_v (pc := 24) rw_103_24 (dp0 hd (by decide)) (ls0 := [.ref p, .int (M.2.1 1 8)]) rfl (Nat.le_of_ble_eq_true rfl) (Nat.le_of_ble_eq_true rfl) rfl (to_rc rfl rfl rfl (g_o hG (by rcases hp with rfl | rfl <;> rfl))) rfl ?_
    refine to_an (pc := 0) rw_53_0 rfl ?_
    refine s_gR (pc := 1) rw_53_1 hG (by rcases hp with rfl | rfl <;> rfl) (v := (p + 6)) (by rcases hp with rfl | rfl <;> rfl) ?_
    refine to_an (pc := 4) rw_53_4 rfl ?_
    refine tt_gI (pc := 5) rw_53_5 (g_o hG (by rcases hp with rfl | rfl <;> rfl)) (v := (M.2.1 p 3)) rfl ?_
    refine to_in (pc := 8) rw_53_8 rfl ?_
    refine s_s (pc := 9) rw_53_9 (dp1 hd (by decide)) (ls0 := [.ref (p + 6), .int (M.2.1 p 3), .int (M.2.1 1 8), .null]) rfl (Nat.le_of_ble_eq_true rfl) (Nat.le_of_ble_eq_true rfl) rfl (to_rcs rfl rfl) rfl ?_
    refine E_54g hX (dp2 hd (by decide)) hG (by omega) (by omega) (by omega) (g := (p + 6)) (s := (M.2.1 p 3)) (x := (M.2.1 1 8)) (fun r63 M69 hG65 F64 p_66 p_67 p_68 => ?_)
    have F70 := FR.c F0 F64 tg_125
    have z_71 := PLs_w (v := (M.2.1 1 8).toInt) q5 (n := (M.2.1 p 3).toInt) (by omega)
    have z_72 := x_fn_v (s := sg) (r := 6) (v := (M.2.1 1 8).toInt) (w := x_val t nn a) (by omega)
    have z_73 := x_fn_b6 (s := sg) (v := x_val t nn a) q5.1
    refine to_r0 (pc := 12) rw_53_12 ?_
    refine to_is (pc := 27) rw_103_27 (ls2 := [.ref 28, .ref 1, .ref p, .ref 11, .int s, .int (0 : Int32), .int v16, .int r63, .null]) rfl rfl ?_
    refine to_an (pc := 29) rw_103_29 rfl ?_
    refine to_i (pc := 30) rw_103_30 rfl ?_
    refine s_v (pc := 32) rw_103_32 (dp0 hd (by decide)) (ls0 := [.ref p, .int r63]) rfl (Nat.le_of_ble_eq_true rfl) (Nat.le_of_ble_eq_true rfl) rfl (to_rc rfl rfl rfl (g_o hG65 (by rcases hp with rfl | rfl <;> rfl))) rfl ?_
    refine to_in (pc := 0) rw_44_0 rfl ?_
    refine b_ilt (pc := 1) rw_44_1 (A := r63.toInt) rfl (fun h74 => ?_) (fun h74 => ?_)
    · refine to_c (pc := 16) rw_44_16 (x := (0 : Int32)) rfl rfl ?_
      refine s_r1 (pc := 17) rw_44_17 (A := 0) rfl (by decide) ?_
      refine b_ieq_t (pc := 35) rw_103_35 (A := 0) rfl (by decide) ?_
      refine to_an (pc := 61) rw_103_61 rfl ?_
      refine to_an (pc := 62) rw_103_62 rfl ?_
      have c_75 : M69.2.1 1 8 = (M.2.1 1 8) := (F_n F64 (show ¬ (1 < 0) by decide) rfl)
      refine tt_gI (pc := 63) rw_103_63 (g_o hG65 rfl) (v := (M.2.1 1 8)) c_75 ?_
      refine s_v (pc := 66) rw_103_66 (dp0 hd (by decide)) (ls0 := [.ref p, .int (M.2.1 1 8)]) rfl (Nat.le_of_ble_eq_true rfl) (Nat.le_of_ble_eq_true rfl) rfl (to_rc rfl rfl rfl (g_o hG65 (by rcases hp with rfl | rfl <;> rfl))) rfl ?_
      refine to_an (pc := 0) rw_52_0 rfl ?_
      refine s_gR (pc := 1) rw_52_1 hG65 (by rcases hp with rfl | rfl <;> rfl) (v := (p + 1)) (by rcases hp with rfl | rfl <;> rfl) ?_
      refine to_an (pc := 4) rw_52_4 rfl ?_
      have c_76 : M69.2.1 p 2 = (M.2.1 p 2) := (F_n F64 (show ¬ (p < 0) by omega) rfl)
      refine tt_gI (pc := 5) rw_52_5 (g_o hG65 (by rcases hp with rfl | rfl <;> rfl)) (v := (M.2.1 p 2)) c_76 ?_
      refine to_in (pc := 8) rw_52_8 rfl ?_
      refine s_s (pc := 9) rw_52_9 (dp1 hd (by decide)) (ls0 := [.ref (p + 1), .int (M.2.1 p 2), .int (M.2.1 1 8), .null]) rfl (Nat.le_of_ble_eq_true rfl) (Nat.le_of_ble_eq_true rfl) rfl (to_rcs rfl rfl) rfl ?_
      have j_77 := (PLs_f (fun a i z => F_n F64 (show ¬ (a < 0) by omega) rfl) q5)
      refine E_54f hX (dp2 hd (by decide)) hG65 (by omega) (by omega) (by omega) (f := (p + 1)) (s := (M.2.1 p 2)) (x := (M.2.1 1 8)) (fun r78 M84 hG80 F79 p_81 p_82 p_83 => ?_)
      have F85 := FR.c F70 F79 tg_125
      have z_86 := PLs_n (v := (M.2.1 1 8).toInt) j_77 (n := (M.2.1 p 2).toInt) (by omega)
      have z_87 := x_fn_v (s := sg) (r := 1) (v := (M.2.1 1 8).toInt) (w := x_val t nn a) (by omega)
      have z_88 := x_fn_b (s := sg) (v := x_val t nn a) j_77.1
      refine to_r0 (pc := 12) rw_52_12 ?_
      refine to_is (pc := 69) rw_103_69 (ls2 := [.ref 28, .ref 1, .ref p, .ref 11, .int s, .int (0 : Int32), .int v16, .int r63, .int r78]) rfl rfl ?_
      refine to_an (pc := 71) rw_103_71 rfl ?_
      refine to_i (pc := 72) rw_103_72 rfl ?_
      refine s_v (pc := 74) rw_103_74 (dp0 hd (by decide)) (ls0 := [.ref p, .int r78]) rfl (Nat.le_of_ble_eq_true rfl) (Nat.le_of_ble_eq_true rfl) rfl (to_rc rfl rfl rfl (g_o hG80 (by rcases hp with rfl | rfl <;> rfl))) rfl ?_
      refine to_in (pc := 0) rw_43_0 rfl ?_
      refine b_ilt (pc := 1) rw_43_1 (A := r78.toInt) rfl (fun h89 => ?_) (fun h89 => ?_)
      · refine to_c (pc := 16) rw_43_16 (x := (0 : Int32)) rfl rfl ?_
        refine s_r1 (pc := 17) rw_43_17 (A := 0) rfl (by decide) ?_
        refine b_ine_f (pc := 77) rw_103_77 (A := 0) rfl (by decide) ?_
        refine to_an (pc := 80) rw_103_80 rfl ?_
        refine to_c (pc := 81) rw_103_81 (x := (4 : Int32)) rfl rfl ?_
        refine s_v (pc := 82) rw_103_82 (dp0 hd (by decide)) (ls0 := [.ref 1, .int (4 : Int32)]) rfl (Nat.le_of_ble_eq_true rfl) (Nat.le_of_ble_eq_true rfl) rfl (to_rc rfl rfl rfl (g_o hG80 rfl)) rfl ?_
        refine to_an (pc := 0) rw_84_0 rfl ?_
        refine to_in (pc := 1) rw_84_1 rfl ?_
        refine s_pI (pc := 2) rw_84_2 hG80 rfl (fun M91 W90 => ?_)
        have hG92 := g_wf hG80 W90 rfl rfl (by decide)
        have F93 := FR.w F85 W90 (show 1 = 1 ∧ 6 ≤ 10 ∧ 10 ≤ 11 ∨ 1 = 33 by decide)
        refine to_an (pc := 5) rw_84_5 rfl ?_
        refine to_an (pc := 6) rw_84_6 rfl ?_
        have c_94 : M91.2.1 1 9 = (M.2.1 1 9) := (W_n W90 (by decide) (F_n F79 (show ¬ (1 < 0) by decide) (F_n F64 (show ¬ (1 < 0) by decide) rfl)))
        refine tt_gI (pc := 7) rw_84_7 (g_o hG92 rfl) (v := (M.2.1 1 9)) c_94 ?_
        refine s_pI (pc := 10) rw_84_10 hG92 rfl (fun M96 W95 => ?_)
        have hG97 := g_wf hG92 W95 rfl rfl (by decide)
        have F98 := FR.w F93 W95 (show 1 = 1 ∧ 6 ≤ 11 ∧ 11 ≤ 11 ∨ 1 = 33 by decide)
        refine to_c (pc := 13) rw_84_13 (x := (0 : Int32)) rfl rfl ?_
        refine s_r1 (pc := 14) rw_84_14 (A := 0) rfl (by decide) ?_
        refine s_r1 (pc := 85) rw_103_85 (A := 0) rfl (by decide) ?_
        have k_99 : (0 : Int32).toInt = 0 := rfl
        have c_100 : M96.2.1 1 9 = (M.2.1 1 9) := (W_n W95 (by decide) c_94)
        have t_101 : (M96.2.1 1 9).toInt = (M.2.1 1 9).toInt := congrArg Int32.toInt c_100
        have j_102 := (CS_f (fun a i z => W_n W95 (tg_32 a i z) rfl) (CS_f (fun a i z => W_n W90 (tg_33 a i z) rfl) (CS_f (tg_28 F79) (CS_f (tg_28 F64) q3))))
        have c_103 : M96.2.1 1 10 = (4 : Int32) := (W_n W95 (by decide) (W_e W90))
        have k_104 : (4 : Int32).toInt = 4 := rfl
        have t_105 : (M96.2.1 1 10).toInt = (4 : Int32).toInt := congrArg Int32.toInt c_103
        have c_106 : M96.2.1 1 11 = (M.2.1 1 9) := (W_e W95)
        have t_107 : (M96.2.1 1 11).toInt = (M.2.1 1 9).toInt := congrArg Int32.toInt c_106
        exact h (0 : Int32) M96 hG97 F98 (by decide) (by decide) j_102 (by omega) (fun z => absurd z (by decide)) (fun _ k9 => winl (by omega) (by omega) (p_ndx (by omega) (by omega) (by omega)))
      · refine to_in (pc := 4) rw_43_4 rfl ?_
        refine to_an (pc := 5) rw_43_5 rfl ?_
        have c_108 : M84.2.1 p 2 = (M.2.1 p 2) := (F_n F79 (show ¬ (p < 0) by omega) c_76)
        refine tt_gI (pc := 6) rw_43_6 (g_o hG80 (by rcases hp with rfl | rfl <;> rfl)) (v := (M.2.1 p 2)) c_108 ?_
        refine b_cge (pc := 9) rw_43_9 (A := r78.toInt) (B := (M.2.1 p 2).toInt) rfl rfl (fun h109 => ?_) (fun h109 => ?_)
        · refine to_c (pc := 16) rw_43_16 (x := (0 : Int32)) rfl rfl ?_
          refine s_r1 (pc := 17) rw_43_17 (A := 0) rfl (by decide) ?_
          refine b_ine_f (pc := 77) rw_103_77 (A := 0) rfl (by decide) ?_
          refine to_an (pc := 80) rw_103_80 rfl ?_
          refine to_c (pc := 81) rw_103_81 (x := (4 : Int32)) rfl rfl ?_
          refine s_v (pc := 82) rw_103_82 (dp0 hd (by decide)) (ls0 := [.ref 1, .int (4 : Int32)]) rfl (Nat.le_of_ble_eq_true rfl) (Nat.le_of_ble_eq_true rfl) rfl (to_rc rfl rfl rfl (g_o hG80 rfl)) rfl ?_
          refine to_an (pc := 0) rw_84_0 rfl ?_
          refine to_in (pc := 1) rw_84_1 rfl ?_
          refine s_pI (pc := 2) rw_84_2 hG80 rfl (fun M111 W110 => ?_)
          have hG112 := g_wf hG80 W110 rfl rfl (by decide)
          have F113 := FR.w F85 W110 (show 1 = 1 ∧ 6 ≤ 10 ∧ 10 ≤ 11 ∨ 1 = 33 by decide)
          refine to_an (pc := 5) rw_84_5 rfl ?_
          refine to_an (pc := 6) rw_84_6 rfl ?_
          have c_114 : M111.2.1 1 9 = (M.2.1 1 9) := (W_n W110 (by decide) (F_n F79 (show ¬ (1 < 0) by decide) (F_n F64 (show ¬ (1 < 0) by decide) rfl)))
          refine tt_gI (pc := 7) rw_84_7 (g_o hG112 rfl) (v := (M.2.1 1 9)) c_114 ?_
          refine s_pI (pc := 10) rw_84_10 hG112 rfl (fun M116 W115 => ?_)
          have hG117 := g_wf hG112 W115 rfl rfl (by decide)
          have F118 := FR.w F113 W115 (show 1 = 1 ∧ 6 ≤ 11 ∧ 11 ≤ 11 ∨ 1 = 33 by decide)
          refine to_c (pc := 13) rw_84_13 (x := (0 : Int32)) rfl rfl ?_
          refine s_r1 (pc := 14) rw_84_14 (A := 0) rfl (by decide) ?_
          refine s_r1 (pc := 85) rw_103_85 (A := 0) rfl (by decide) ?_
          have k_119 : (0 : Int32).toInt = 0 := rfl
          have c_120 : M116.2.1 1 9 = (M.2.1 1 9) := (W_n W115 (by decide) c_114)
          have t_121 : (M116.2.1 1 9).toInt = (M.2.1 1 9).toInt := congrArg Int32.toInt c_120
          have j_122 := (CS_f (fun a i z => W_n W115 (tg_32 a i z) rfl) (CS_f (fun a i z => W_n W110 (tg_33 a i z) rfl) (CS_f (tg_28 F79) (CS_f (tg_28 F64) q3))))
          have c_123 : M116.2.1 1 10 = (4 : Int32) := (W_n W115 (by decide) (W_e W110))
          have k_124 : (4 : Int32).toInt = 4 := rfl
          have t_125 : (M116.2.1 1 10).toInt = (4 : Int32).toInt := congrArg Int32.toInt c_123
          have c_126 : M116.2.1 1 11 = (M.2.1 1 9) := (W_e W115)
          have t_127 : (M116.2.1 1 11).toInt = (M.2.1 1 9).toInt := congrArg Int32.toInt c_126
          exact h (0 : Int32) M116 hG117 F118 (by decide) (by decide) j_122 (by omega) (fun z => absurd z (by decide)) (fun _ k9 => winl (by omega) (by omega) (p_ndx (by omega) (by omega) (by omega)))
        · refine to_c (pc := 12) rw_43_12 (x := (1 : Int32)) rfl rfl ?_
          refine to_go (pc := 13) rw_43_13 ?_
          refine s_r1 (pc := 17) rw_43_17 (A := 1) rfl (by decide) ?_
          refine b_ine_t (pc := 77) rw_103_77 (A := 1) rfl (by decide) ?_
          refine to_an (pc := 86) rw_103_86 rfl ?_
          refine s_gR (pc := 87) rw_103_87 hG80 (by rcases hp with rfl | rfl <;> rfl) (v := (p + 3)) (by rcases hp with rfl | rfl <;> rfl) ?_
          refine to_i (pc := 90) rw_103_90 rfl ?_
          refine s_ial (pc := 92) rw_103_92 hG80 (by rcases hp with rfl | rfl <;> rfl) (n := 8) (by rcases hp with rfl | rfl <;> rfl) (by rcases hp with rfl | rfl <;> rfl) (A := r78.toInt) rfl (by omega) (by omega) (lo := 0) (hi := 59) (by rcases hp with rfl | rfl <;> rfl) (by rcases hp with rfl | rfl <;> rfl) (fun v128 w_129 _ _ => ?_)
          have j_130 := (PLs_f (fun a i z => F_n F79 (show ¬ (a < 0) by omega) rfl) j_77)
          have z_131 := PLs_r j_130 3 (by decide) (by decide) (k := r78.toInt) (by omega) (by omega) w_129
          have z_132 := x_row_v (s := sg) (r := 3) (x := r78.toInt) (y := x_fn sg 1 (x_val t nn a)) (by omega)
          have z_133 := j_130.1.2.2.2.2.2.2.2 (x_fn sg 1 (x_val t nn a)) (by omega) (by omega)
          refine to_is (pc := 93) rw_103_93 (ls2 := [.ref 28, .ref 1, .ref p, .ref 11, .int s, .int v128, .int v16, .int r63, .int r78]) rfl rfl ?_
          refine to_an (pc := 95) rw_103_95 rfl ?_
          refine to_i (pc := 96) rw_103_96 rfl ?_
          refine s_v (pc := 98) rw_103_98 (dp0 hd (by decide)) (ls0 := [.ref p, .int r78]) rfl (Nat.le_of_ble_eq_true rfl) (Nat.le_of_ble_eq_true rfl) rfl (to_rc rfl rfl rfl (g_o hG80 (by rcases hp with rfl | rfl <;> rfl))) rfl ?_
          refine to_an (pc := 0) rw_47_0 rfl ?_
          refine s_gR (pc := 1) rw_47_1 hG80 (by rcases hp with rfl | rfl <;> rfl) (v := (p + 4)) (by rcases hp with rfl | rfl <;> rfl) ?_
          refine to_in (pc := 4) rw_47_4 rfl ?_
          refine s_ial (pc := 5) rw_47_5 hG80 (by rcases hp with rfl | rfl <;> rfl) (n := 8) (by rcases hp with rfl | rfl <;> rfl) (by rcases hp with rfl | rfl <;> rfl) (A := r78.toInt) rfl (by omega) (by omega) (lo := 0) (hi := 63) (by rcases hp with rfl | rfl <;> rfl) (by rcases hp with rfl | rfl <;> rfl) (fun v134 w_135 _ _ => ?_)
          have z_136 := PLs_r j_130 4 (by decide) (by decide) (k := r78.toInt) (by omega) (by omega) w_135
          have z_137 := x_row_v (s := sg) (r := 4) (x := r78.toInt) (y := x_fn sg 1 (x_val t nn a)) (by omega)
          refine to_an (pc := 6) rw_47_6 rfl ?_
          refine s_gR (pc := 7) rw_47_7 hG80 (by rcases hp with rfl | rfl <;> rfl) (v := (p + 3)) (by rcases hp with rfl | rfl <;> rfl) ?_
          refine to_in (pc := 10) rw_47_10 rfl ?_
          refine s_ialk (pc := 11) rw_47_11 hG80 (by rcases hp with rfl | rfl <;> rfl) (n := 8) (by rcases hp with rfl | rfl <;> rfl) (by rcases hp with rfl | rfl <;> rfl) (A := r78.toInt) rfl (by omega) (by omega) (v := v128) w_129 ?_
          refine s_sub (pc := 12) rw_47_12 (A := v134.toInt) (B := v128.toInt) rfl rfl (by omega) (fun v140 e141 => ?_)
          refine to_c (pc := 13) rw_47_13 (x := (1 : Int32)) rfl rfl ?_
          refine s_add (pc := 14) rw_47_14 (A := v140.toInt) (B := 1) rfl rfl (by omega) (fun v142 e143 => ?_)
          refine to_r0 (pc := 15) rw_47_15 ?_
          refine to_c (pc := 101) rw_103_101 (x := (1 : Int32)) rfl rfl ?_
          refine s_sub (pc := 102) rw_103_102 (A := v142.toInt) (B := 1) rfl rfl (by omega) (fun v144 e145 => ?_)
          refine to_is (pc := 103) rw_103_103 (ls2 := [.ref 28, .ref 1, .ref p, .ref 11, .int s, .int v128, .int v144, .int r63, .int r78]) rfl rfl ?_
          refine to_an (pc := 105) rw_103_105 rfl ?_
          refine s_v (pc := 106) rw_103_106 (dp0 hd (by decide)) (ls0 := [.ref 1]) rfl (Nat.le_of_ble_eq_true rfl) (Nat.le_of_ble_eq_true rfl) rfl (to_rc rfl rfl rfl (g_o hG80 rfl)) rfl ?_
          have j_146 := (CS_f (tg_28 F79) (CS_f (tg_28 F64) q3))
          have c_147 : M84.2.1 1 9 = (M.2.1 1 9) := (F_n F79 (show ¬ (1 < 0) by decide) (F_n F64 (show ¬ (1 < 0) by decide) rfl))
          have t_148 : (M84.2.1 1 9).toInt = (M.2.1 1 9).toInt := congrArg Int32.toInt c_147
          refine E_83 hX (dp1 hd (by decide)) hG80 j_146 (by omega) (t := t) (nn := nn) (a := a) (fun M153 hG150 F149 p_151 p_152 => ?_)
          have F154 := FR.c F85 F149 tg_124
          refine to_an (pc := 109) rw_103_109 rfl ?_
          refine to_c (pc := 110) rw_103_110 (x := (0 : Int32)) rfl rfl ?_
          refine to_i (pc := 111) rw_103_111 rfl ?_
          refine s_v (pc := 113) rw_103_113 (dp0 hd (by decide)) (ls0 := [.ref 1, .int (0 : Int32), .int v144]) rfl (Nat.le_of_ble_eq_true rfl) (Nat.le_of_ble_eq_true rfl) rfl (to_rc rfl rfl rfl (g_o hG150 rfl)) rfl ?_
          have k_155 : (0 : Int32).toInt = 0 := rfl
          refine E_88f hX (dp1 hd (by decide)) hG150 p_151 (by omega) (l := (0 : Int32)) (m := v144) (t := t) (nn := nn) (a := (x_ns t nn a)) (fun r156 M166 hG158 F157 p_159 p_160 p_161 p_162 p_163 p_164 p_165 => ?_)
          have F167 := FR.c F154 F157 tg_123
          rcases (show r156.toInt = 0 ∨ r156.toInt = 1 by omega) with h168 | h168
          · skip
            have p_169 := p_162 (by omega)
            have p_170 := p_163 (by omega)
            clear p_161 p_162 p_163
            have z_171 := x_val_b (t := t) (nn := nn) (a := (x_ns t nn a))
            refine b_ine_f (pc := 116) rw_103_116 (A := r156.toInt) rfl (by omega) ?_
            refine to_c (pc := 119) rw_103_119 (x := (0 : Int32)) rfl rfl ?_
            refine s_r1 (pc := 120) rw_103_120 (A := 0) rfl (by decide) ?_
            have c_172 : M166.2.1 1 9 = (M153.2.1 1 9) := (F_n F157 (show ¬ (1 = 1 ∧ (9 = 10 ∨ 9 = 11)) by decide) rfl)
            have t_173 : (M166.2.1 1 9).toInt = (M153.2.1 1 9).toInt := congrArg Int32.toInt c_172
            have j_174 := (CS_f (tg_34 F157) p_151)
            exact h (0 : Int32) M166 hG158 F167 (by decide) (by decide) j_174 (by omega) (fun z => absurd z (by decide)) (fun _ k9 => if g9 : x_kind t nn (x_ns t nn a) = 3 then winl (by omega) (by omega) ((p_ndf (by omega) (by omega) (by omega)).trans (p_nb2 g9 (by omega))) else winl (by omega) (by omega) ((p_ndf (by omega) (by omega) (by omega)).trans (p_nb1 g9)))
          · skip
            have p_175 := p_161 (by omega)
            clear p_161 p_162 p_163
            have c_176 : M166.2.1 1 8 = (M153.2.1 1 8) := (F_n F157 (show ¬ (1 = 1 ∧ (8 = 10 ∨ 8 = 11)) by decide) rfl)
            have z_177 := x_val_b (t := t) (nn := nn) (a := (x_ns t nn a)) (by omega)
            refine b_ine_t (pc := 116) rw_103_116 (A := r156.toInt) rfl (by omega) ?_
            refine to_an (pc := 121) rw_103_121 rfl ?_
            refine s_gR (pc := 122) rw_103_122 hG158 rfl (v := 33) rfl ?_
            refine to_i (pc := 125) rw_103_125 rfl ?_
            refine to_dup2 (pc := 127) rw_103_127 ?_
            refine s_lalE (pc := 128) rw_103_128 hG158 rfl (n := 40) rfl (A := s.toInt) rfl (by omega) (by omega) (fun l178 w_179 => ?_)
            refine to_cl (pc := 129) rw_103_129 rfl (x := (1 : Int64)) rfl ?_
            refine to_i (pc := 130) rw_103_130 rfl ?_
            refine to_an (pc := 132) rw_103_132 rfl ?_
            refine tt_gI (pc := 133) rw_103_133 (g_o hG158 rfl) (v := (M153.2.1 1 8)) c_176 ?_
            refine s_add (pc := 136) rw_103_136 (A := v128.toInt) (B := (M153.2.1 1 8).toInt) rfl rfl (by omega) (fun v180 e181 => ?_)
            refine to_2s (pc := 137) rw_103_137 (v := ((1 : Int64) <<< (v180.toInt64 &&& 63))) rfl ?_
            refine to_2l (pc := 138) rw_103_138 (v := (l178 ||| ((1 : Int64) <<< (v180.toInt64 &&& 63)))) rfl ?_
            refine s_las (pc := 139) rw_103_139 hG158 rfl (n := 40) rfl (A := s.toInt) rfl (by omega) (by omega) (fun M183 W182 => ?_)
            have hG184 := g_wl hG158 W182
            have F185 := FR.wl F167 W182 (show 33 = 1 ∧ 6 ≤ (s.toInt).toNat ∧ (s.toInt).toNat ≤ 11 ∨ 33 = 33 by omega)
            refine to_an (pc := 140) rw_103_140 rfl ?_
            refine s_v (pc := 141) rw_103_141 (dp0 hd (by decide)) (ls0 := [.ref 1]) rfl (Nat.le_of_ble_eq_true rfl) (Nat.le_of_ble_eq_true rfl) rfl (to_rc rfl rfl rfl (g_o hG184 rfl)) rfl ?_
            have j_186 := (CS_f (fun a i z => W_l W182 rfl) (CS_f (tg_34 F157) p_151))
            have c_187 : M183.2.1 1 9 = (M153.2.1 1 9) := (W_l W182 (F_n F157 (show ¬ (1 = 1 ∧ (9 = 10 ∨ 9 = 11)) by decide) rfl))
            have t_188 : (M183.2.1 1 9).toInt = (M153.2.1 1 9).toInt := congrArg Int32.toInt c_187
            refine E_83 hX (dp1 hd (by decide)) hG184 j_186 (by omega) (t := t) (nn := nn) (a := (x_ns t nn a)) (fun M193 hG190 F189 p_191 p_192 => ?_)
            have F194 := FR.c F185 F189 tg_124
            refine to_c (pc := 144) rw_103_144 (x := (1 : Int32)) rfl rfl ?_
            refine s_r1 (pc := 145) rw_103_145 (A := 1) rfl (by decide) ?_
            have k_195 : (1 : Int32).toInt = 1 := rfl
            have z_196 := x_ns_lt (t := t) (nn := nn) (a := a) (by omega) (x_lt_k (t := t) (by omega) (by omega))
            have z_197 := x_ns_b (t := t) (n := nn) (a := (x_ns t nn a)) (by omega) (by omega)
            exact h (1 : Int32) M193 hG190 F194 (by decide) (by decide) p_191 (by omega) (fun _ k9 => by rw [show (M193.2.1 1 9).toInt = (x_ns t nn (x_ns t nn a)) by omega]; exact (p_ndf (by omega) (by omega) (by omega)).trans (p_nb (by omega) (by omega))) (fun z => absurd z (by decide))
    · refine to_in (pc := 4) rw_44_4 rfl ?_
      refine to_an (pc := 5) rw_44_5 rfl ?_
      have c_198 : M69.2.1 p 3 = (M.2.1 p 3) := (F_n F64 (show ¬ (p < 0) by omega) rfl)
      refine tt_gI (pc := 6) rw_44_6 (g_o hG65 (by rcases hp with rfl | rfl <;> rfl)) (v := (M.2.1 p 3)) c_198 ?_
      refine b_cge (pc := 9) rw_44_9 (A := r63.toInt) (B := (M.2.1 p 3).toInt) rfl rfl (fun h199 => ?_) (fun h199 => ?_)
      · refine to_c (pc := 16) rw_44_16 (x := (0 : Int32)) rfl rfl ?_
        refine s_r1 (pc := 17) rw_44_17 (A := 0) rfl (by decide) ?_
        refine b_ieq_t (pc := 35) rw_103_35 (A := 0) rfl (by decide) ?_
        refine to_an (pc := 61) rw_103_61 rfl ?_
        refine to_an (pc := 62) rw_103_62 rfl ?_
        have c_200 : M69.2.1 1 8 = (M.2.1 1 8) := (F_n F64 (show ¬ (1 < 0) by decide) rfl)
        refine tt_gI (pc := 63) rw_103_63 (g_o hG65 rfl) (v := (M.2.1 1 8)) c_200 ?_
        refine s_v (pc := 66) rw_103_66 (dp0 hd (by decide)) (ls0 := [.ref p, .int (M.2.1 1 8)]) rfl (Nat.le_of_ble_eq_true rfl) (Nat.le_of_ble_eq_true rfl) rfl (to_rc rfl rfl rfl (g_o hG65 (by rcases hp with rfl | rfl <;> rfl))) rfl ?_
        refine to_an (pc := 0) rw_52_0 rfl ?_
        refine s_gR (pc := 1) rw_52_1 hG65 (by rcases hp with rfl | rfl <;> rfl) (v := (p + 1)) (by rcases hp with rfl | rfl <;> rfl) ?_
        refine to_an (pc := 4) rw_52_4 rfl ?_
        have c_201 : M69.2.1 p 2 = (M.2.1 p 2) := (F_n F64 (show ¬ (p < 0) by omega) rfl)
        refine tt_gI (pc := 5) rw_52_5 (g_o hG65 (by rcases hp with rfl | rfl <;> rfl)) (v := (M.2.1 p 2)) c_201 ?_
        refine to_in (pc := 8) rw_52_8 rfl ?_
        refine s_s (pc := 9) rw_52_9 (dp1 hd (by decide)) (ls0 := [.ref (p + 1), .int (M.2.1 p 2), .int (M.2.1 1 8), .null]) rfl (Nat.le_of_ble_eq_true rfl) (Nat.le_of_ble_eq_true rfl) rfl (to_rcs rfl rfl) rfl ?_
        have j_202 := (PLs_f (fun a i z => F_n F64 (show ¬ (a < 0) by omega) rfl) q5)
        refine E_54f hX (dp2 hd (by decide)) hG65 (by omega) (by omega) (by omega) (f := (p + 1)) (s := (M.2.1 p 2)) (x := (M.2.1 1 8)) (fun r203 M209 hG205 F204 p_206 p_207 p_208 => ?_)
        have F210 := FR.c F70 F204 tg_125
        have z_211 := PLs_n (v := (M.2.1 1 8).toInt) j_202 (n := (M.2.1 p 2).toInt) (by omega)
        have z_212 := x_fn_v (s := sg) (r := 1) (v := (M.2.1 1 8).toInt) (w := x_val t nn a) (by omega)
        have z_213 := x_fn_b (s := sg) (v := x_val t nn a) j_202.1
        refine to_r0 (pc := 12) rw_52_12 ?_
        refine to_is (pc := 69) rw_103_69 (ls2 := [.ref 28, .ref 1, .ref p, .ref 11, .int s, .int (0 : Int32), .int v16, .int r63, .int r203]) rfl rfl ?_
        refine to_an (pc := 71) rw_103_71 rfl ?_
        refine to_i (pc := 72) rw_103_72 rfl ?_
        refine s_v (pc := 74) rw_103_74 (dp0 hd (by decide)) (ls0 := [.ref p, .int r203]) rfl (Nat.le_of_ble_eq_true rfl) (Nat.le_of_ble_eq_true rfl) rfl (to_rc rfl rfl rfl (g_o hG205 (by rcases hp with rfl | rfl <;> rfl))) rfl ?_
        refine to_in (pc := 0) rw_43_0 rfl ?_
        refine b_ilt (pc := 1) rw_43_1 (A := r203.toInt) rfl (fun h214 => ?_) (fun h214 => ?_)
        · refine to_c (pc := 16) rw_43_16 (x := (0 : Int32)) rfl rfl ?_
          refine s_r1 (pc := 17) rw_43_17 (A := 0) rfl (by decide) ?_
          refine b_ine_f (pc := 77) rw_103_77 (A := 0) rfl (by decide) ?_
          refine to_an (pc := 80) rw_103_80 rfl ?_
          refine to_c (pc := 81) rw_103_81 (x := (4 : Int32)) rfl rfl ?_
          refine s_v (pc := 82) rw_103_82 (dp0 hd (by decide)) (ls0 := [.ref 1, .int (4 : Int32)]) rfl (Nat.le_of_ble_eq_true rfl) (Nat.le_of_ble_eq_true rfl) rfl (to_rc rfl rfl rfl (g_o hG205 rfl)) rfl ?_
          refine to_an (pc := 0) rw_84_0 rfl ?_
          refine to_in (pc := 1) rw_84_1 rfl ?_
          refine s_pI (pc := 2) rw_84_2 hG205 rfl (fun M216 W215 => ?_)
          have hG217 := g_wf hG205 W215 rfl rfl (by decide)
          have F218 := FR.w F210 W215 (show 1 = 1 ∧ 6 ≤ 10 ∧ 10 ≤ 11 ∨ 1 = 33 by decide)
          refine to_an (pc := 5) rw_84_5 rfl ?_
          refine to_an (pc := 6) rw_84_6 rfl ?_
          have c_219 : M216.2.1 1 9 = (M.2.1 1 9) := (W_n W215 (by decide) (F_n F204 (show ¬ (1 < 0) by decide) (F_n F64 (show ¬ (1 < 0) by decide) rfl)))
          refine tt_gI (pc := 7) rw_84_7 (g_o hG217 rfl) (v := (M.2.1 1 9)) c_219 ?_
          refine s_pI (pc := 10) rw_84_10 hG217 rfl (fun M221 W220 => ?_)
          have hG222 := g_wf hG217 W220 rfl rfl (by decide)
          have F223 := FR.w F218 W220 (show 1 = 1 ∧ 6 ≤ 11 ∧ 11 ≤ 11 ∨ 1 = 33 by decide)
          refine to_c (pc := 13) rw_84_13 (x := (0 : Int32)) rfl rfl ?_
          refine s_r1 (pc := 14) rw_84_14 (A := 0) rfl (by decide) ?_
          refine s_r1 (pc := 85) rw_103_85 (A := 0) rfl (by decide) ?_
          have k_224 : (0 : Int32).toInt = 0 := rfl
          have c_225 : M221.2.1 1 9 = (M.2.1 1 9) := (W_n W220 (by decide) c_219)
          have t_226 : (M221.2.1 1 9).toInt = (M.2.1 1 9).toInt := congrArg Int32.toInt c_225
          have j_227 := (CS_f (fun a i z => W_n W220 (tg_32 a i z) rfl) (CS_f (fun a i z => W_n W215 (tg_33 a i z) rfl) (CS_f (tg_28 F204) (CS_f (tg_28 F64) q3))))
          have c_228 : M221.2.1 1 10 = (4 : Int32) := (W_n W220 (by decide) (W_e W215))
          have k_229 : (4 : Int32).toInt = 4 := rfl
          have t_230 : (M221.2.1 1 10).toInt = (4 : Int32).toInt := congrArg Int32.toInt c_228
          have c_231 : M221.2.1 1 11 = (M.2.1 1 9) := (W_e W220)
          have t_232 : (M221.2.1 1 11).toInt = (M.2.1 1 9).toInt := congrArg Int32.toInt c_231
          exact h (0 : Int32) M221 hG222 F223 (by decide) (by decide) j_227 (by omega) (fun z => absurd z (by decide)) (fun _ k9 => winl (by omega) (by omega) (p_ndx (by omega) (by omega) (by omega)))
        · refine to_in (pc := 4) rw_43_4 rfl ?_
          refine to_an (pc := 5) rw_43_5 rfl ?_
          have c_233 : M209.2.1 p 2 = (M.2.1 p 2) := (F_n F204 (show ¬ (p < 0) by omega) c_201)
          refine tt_gI (pc := 6) rw_43_6 (g_o hG205 (by rcases hp with rfl | rfl <;> rfl)) (v := (M.2.1 p 2)) c_233 ?_
          refine b_cge (pc := 9) rw_43_9 (A := r203.toInt) (B := (M.2.1 p 2).toInt) rfl rfl (fun h234 => ?_) (fun h234 => ?_)
          · refine to_c (pc := 16) rw_43_16 (x := (0 : Int32)) rfl rfl ?_
            refine s_r1 (pc := 17) rw_43_17 (A := 0) rfl (by decide) ?_
            refine b_ine_f (pc := 77) rw_103_77 (A := 0) rfl (by decide) ?_
            refine to_an (pc := 80) rw_103_80 rfl ?_
            refine to_c (pc := 81) rw_103_81 (x := (4 : Int32)) rfl rfl ?_
            refine s_v (pc := 82) rw_103_82 (dp0 hd (by decide)) (ls0 := [.ref 1, .int (4 : Int32)]) rfl (Nat.le_of_ble_eq_true rfl) (Nat.le_of_ble_eq_true rfl) rfl (to_rc rfl rfl rfl (g_o hG205 rfl)) rfl ?_
            refine to_an (pc := 0) rw_84_0 rfl ?_
            refine to_in (pc := 1) rw_84_1 rfl ?_
            refine s_pI (pc := 2) rw_84_2 hG205 rfl (fun M236 W235 => ?_)
            have hG237 := g_wf hG205 W235 rfl rfl (by decide)
            have F238 := FR.w F210 W235 (show 1 = 1 ∧ 6 ≤ 10 ∧ 10 ≤ 11 ∨ 1 = 33 by decide)
            refine to_an (pc := 5) rw_84_5 rfl ?_
            refine to_an (pc := 6) rw_84_6 rfl ?_
            have c_239 : M236.2.1 1 9 = (M.2.1 1 9) := (W_n W235 (by decide) (F_n F204 (show ¬ (1 < 0) by decide) (F_n F64 (show ¬ (1 < 0) by decide) rfl)))
            refine tt_gI (pc := 7) rw_84_7 (g_o hG237 rfl) (v := (M.2.1 1 9)) c_239 ?_
            refine s_pI (pc := 10) rw_84_10 hG237 rfl (fun M241 W240 => ?_)
            have hG242 := g_wf hG237 W240 rfl rfl (by decide)
            have F243 := FR.w F238 W240 (show 1 = 1 ∧ 6 ≤ 11 ∧ 11 ≤ 11 ∨ 1 = 33 by decide)
            refine to_c (pc := 13) rw_84_13 (x := (0 : Int32)) rfl rfl ?_
            refine s_r1 (pc := 14) rw_84_14 (A := 0) rfl (by decide) ?_
            refine s_r1 (pc := 85) rw_103_85 (A := 0) rfl (by decide) ?_
            have k_244 : (0 : Int32).toInt = 0 := rfl
            have c_245 : M241.2.1 1 9 = (M.2.1 1 9) := (W_n W240 (by decide) c_239)
            have t_246 : (M241.2.1 1 9).toInt = (M.2.1 1 9).toInt := congrArg Int32.toInt c_245
            have j_247 := (CS_f (fun a i z => W_n W240 (tg_32 a i z) rfl) (CS_f (fun a i z => W_n W235 (tg_33 a i z) rfl) (CS_f (tg_28 F204) (CS_f (tg_28 F64) q3))))
            have c_248 : M241.2.1 1 10 = (4 : Int32) := (W_n W240 (by decide) (W_e W235))
            have k_249 : (4 : Int32).toInt = 4 := rfl
            have t_250 : (M241.2.1 1 10).toInt = (4 : Int32).toInt := congrArg Int32.toInt c_248
            have c_251 : M241.2.1 1 11 = (M.2.1 1 9) := (W_e W240)
            have t_252 : (M241.2.1 1 11).toInt = (M.2.1 1 9).toInt := congrArg Int32.toInt c_251
            exact h (0 : Int32) M241 hG242 F243 (by decide) (by decide) j_247 (by omega) (fun z => absurd z (by decide)) (fun _ k9 => winl (by omega) (by omega) (p_ndx (by omega) (by omega) (by omega)))
          · refine to_c (pc := 12) rw_43_12 (x := (1 : Int32)) rfl rfl ?_
            refine to_go (pc := 13) rw_43_13 ?_
            refine s_r1 (pc := 17) rw_43_17 (A := 1) rfl (by decide) ?_
            refine b_ine_t (pc := 77) rw_103_77 (A := 1) rfl (by decide) ?_
            refine to_an (pc := 86) rw_103_86 rfl ?_
            refine s_gR (pc := 87) rw_103_87 hG205 (by rcases hp with rfl | rfl <;> rfl) (v := (p + 3)) (by rcases hp with rfl | rfl <;> rfl) ?_
            refine to_i (pc := 90) rw_103_90 rfl ?_
            refine s_ial (pc := 92) rw_103_92 hG205 (by rcases hp with rfl | rfl <;> rfl) (n := 8) (by rcases hp with rfl | rfl <;> rfl) (by rcases hp with rfl | rfl <;> rfl) (A := r203.toInt) rfl (by omega) (by omega) (lo := 0) (hi := 59) (by rcases hp with rfl | rfl <;> rfl) (by rcases hp with rfl | rfl <;> rfl) (fun v253 w_254 _ _ => ?_)
            have j_255 := (PLs_f (fun a i z => F_n F204 (show ¬ (a < 0) by omega) rfl) j_202)
            have z_256 := PLs_r j_255 3 (by decide) (by decide) (k := r203.toInt) (by omega) (by omega) w_254
            have z_257 := x_row_v (s := sg) (r := 3) (x := r203.toInt) (y := x_fn sg 1 (x_val t nn a)) (by omega)
            have z_258 := j_255.1.2.2.2.2.2.2.2 (x_fn sg 1 (x_val t nn a)) (by omega) (by omega)
            refine to_is (pc := 93) rw_103_93 (ls2 := [.ref 28, .ref 1, .ref p, .ref 11, .int s, .int v253, .int v16, .int r63, .int r203]) rfl rfl ?_
            refine to_an (pc := 95) rw_103_95 rfl ?_
            refine to_i (pc := 96) rw_103_96 rfl ?_
            refine s_v (pc := 98) rw_103_98 (dp0 hd (by decide)) (ls0 := [.ref p, .int r203]) rfl (Nat.le_of_ble_eq_true rfl) (Nat.le_of_ble_eq_true rfl) rfl (to_rc rfl rfl rfl (g_o hG205 (by rcases hp with rfl | rfl <;> rfl))) rfl ?_
            refine to_an (pc := 0) rw_47_0 rfl ?_
            refine s_gR (pc := 1) rw_47_1 hG205 (by rcases hp with rfl | rfl <;> rfl) (v := (p + 4)) (by rcases hp with rfl | rfl <;> rfl) ?_
            refine to_in (pc := 4) rw_47_4 rfl ?_
            refine s_ial (pc := 5) rw_47_5 hG205 (by rcases hp with rfl | rfl <;> rfl) (n := 8) (by rcases hp with rfl | rfl <;> rfl) (by rcases hp with rfl | rfl <;> rfl) (A := r203.toInt) rfl (by omega) (by omega) (lo := 0) (hi := 63) (by rcases hp with rfl | rfl <;> rfl) (by rcases hp with rfl | rfl <;> rfl) (fun v259 w_260 _ _ => ?_)
            have z_261 := PLs_r j_255 4 (by decide) (by decide) (k := r203.toInt) (by omega) (by omega) w_260
            have z_262 := x_row_v (s := sg) (r := 4) (x := r203.toInt) (y := x_fn sg 1 (x_val t nn a)) (by omega)
            refine to_an (pc := 6) rw_47_6 rfl ?_
            refine s_gR (pc := 7) rw_47_7 hG205 (by rcases hp with rfl | rfl <;> rfl) (v := (p + 3)) (by rcases hp with rfl | rfl <;> rfl) ?_
            refine to_in (pc := 10) rw_47_10 rfl ?_
            refine s_ialk (pc := 11) rw_47_11 hG205 (by rcases hp with rfl | rfl <;> rfl) (n := 8) (by rcases hp with rfl | rfl <;> rfl) (by rcases hp with rfl | rfl <;> rfl) (A := r203.toInt) rfl (by omega) (by omega) (v := v253) w_254 ?_
            refine s_sub (pc := 12) rw_47_12 (A := v259.toInt) (B := v253.toInt) rfl rfl (by omega) (fun v265 e266 => ?_)
            refine to_c (pc := 13) rw_47_13 (x := (1 : Int32)) rfl rfl ?_
            refine s_add (pc := 14) rw_47_14 (A := v265.toInt) (B := 1) rfl rfl (by omega) (fun v267 e268 => ?_)
            refine to_r0 (pc := 15) rw_47_15 ?_
            refine to_c (pc := 101) rw_103_101 (x := (1 : Int32)) rfl rfl ?_
            refine s_sub (pc := 102) rw_103_102 (A := v267.toInt) (B := 1) rfl rfl (by omega) (fun v269 e270 => ?_)
            refine to_is (pc := 103) rw_103_103 (ls2 := [.ref 28, .ref 1, .ref p, .ref 11, .int s, .int v253, .int v269, .int r63, .int r203]) rfl rfl ?_
            refine to_an (pc := 105) rw_103_105 rfl ?_
            refine s_v (pc := 106) rw_103_106 (dp0 hd (by decide)) (ls0 := [.ref 1]) rfl (Nat.le_of_ble_eq_true rfl) (Nat.le_of_ble_eq_true rfl) rfl (to_rc rfl rfl rfl (g_o hG205 rfl)) rfl ?_
            have j_271 := (CS_f (tg_28 F204) (CS_f (tg_28 F64) q3))
            have c_272 : M209.2.1 1 9 = (M.2.1 1 9) := (F_n F204 (show ¬ (1 < 0) by decide) (F_n F64 (show ¬ (1 < 0) by decide) rfl))
            have t_273 : (M209.2.1 1 9).toInt = (M.2.1 1 9).toInt := congrArg Int32.toInt c_272
            refine E_83 hX (dp1 hd (by decide)) hG205 j_271 (by omega) (t := t) (nn := nn) (a := a) (fun M278 hG275 F274 p_276 p_277 => ?_)
            have F279 := FR.c F210 F274 tg_124
            refine to_an (pc := 109) rw_103_109 rfl ?_
            refine to_c (pc := 110) rw_103_110 (x := (0 : Int32)) rfl rfl ?_
            refine to_i (pc := 111) rw_103_111 rfl ?_
            refine s_v (pc := 113) rw_103_113 (dp0 hd (by decide)) (ls0 := [.ref 1, .int (0 : Int32), .int v269]) rfl (Nat.le_of_ble_eq_true rfl) (Nat.le_of_ble_eq_true rfl) rfl (to_rc rfl rfl rfl (g_o hG275 rfl)) rfl ?_
            have k_280 : (0 : Int32).toInt = 0 := rfl
            refine E_88f hX (dp1 hd (by decide)) hG275 p_276 (by omega) (l := (0 : Int32)) (m := v269) (t := t) (nn := nn) (a := (x_ns t nn a)) (fun r281 M291 hG283 F282 p_284 p_285 p_286 p_287 p_288 p_289 p_290 => ?_)
            have F292 := FR.c F279 F282 tg_123
            rcases (show r281.toInt = 0 ∨ r281.toInt = 1 by omega) with h293 | h293
            · skip
              have p_294 := p_287 (by omega)
              have p_295 := p_288 (by omega)
              clear p_286 p_287 p_288
              have z_296 := x_val_b (t := t) (nn := nn) (a := (x_ns t nn a))
              refine b_ine_f (pc := 116) rw_103_116 (A := r281.toInt) rfl (by omega) ?_
              refine to_c (pc := 119) rw_103_119 (x := (0 : Int32)) rfl rfl ?_
              refine s_r1 (pc := 120) rw_103_120 (A := 0) rfl (by decide) ?_
              have c_297 : M291.2.1 1 9 = (M278.2.1 1 9) := (F_n F282 (show ¬ (1 = 1 ∧ (9 = 10 ∨ 9 = 11)) by decide) rfl)
              have t_298 : (M291.2.1 1 9).toInt = (M278.2.1 1 9).toInt := congrArg Int32.toInt c_297
              have j_299 := (CS_f (tg_34 F282) p_276)
              exact h (0 : Int32) M291 hG283 F292 (by decide) (by decide) j_299 (by omega) (fun z => absurd z (by decide)) (fun _ k9 => if g9 : x_kind t nn (x_ns t nn a) = 3 then winl (by omega) (by omega) ((p_ndf (by omega) (by omega) (by omega)).trans (p_nb2 g9 (by omega))) else winl (by omega) (by omega) ((p_ndf (by omega) (by omega) (by omega)).trans (p_nb1 g9)))
            · skip
              have p_300 := p_286 (by omega)
              clear p_286 p_287 p_288
              have c_301 : M291.2.1 1 8 = (M278.2.1 1 8) := (F_n F282 (show ¬ (1 = 1 ∧ (8 = 10 ∨ 8 = 11)) by decide) rfl)
              have z_302 := x_val_b (t := t) (nn := nn) (a := (x_ns t nn a)) (by omega)
              refine b_ine_t (pc := 116) rw_103_116 (A := r281.toInt) rfl (by omega) ?_
              refine to_an (pc := 121) rw_103_121 rfl ?_
              refine s_gR (pc := 122) rw_103_122 hG283 rfl (v := 33) rfl ?_
              refine to_i (pc := 125) rw_103_125 rfl ?_
              refine to_dup2 (pc := 127) rw_103_127 ?_
              refine s_lalE (pc := 128) rw_103_128 hG283 rfl (n := 40) rfl (A := s.toInt) rfl (by omega) (by omega) (fun l303 w_304 => ?_)
              refine to_cl (pc := 129) rw_103_129 rfl (x := (1 : Int64)) rfl ?_
              refine to_i (pc := 130) rw_103_130 rfl ?_
              refine to_an (pc := 132) rw_103_132 rfl ?_
              refine tt_gI (pc := 133) rw_103_133 (g_o hG283 rfl) (v := (M278.2.1 1 8)) c_301 ?_
              refine s_add (pc := 136) rw_103_136 (A := v253.toInt) (B := (M278.2.1 1 8).toInt) rfl rfl (by omega) (fun v305 e306 => ?_)
              refine to_2s (pc := 137) rw_103_137 (v := ((1 : Int64) <<< (v305.toInt64 &&& 63))) rfl ?_
              refine to_2l (pc := 138) rw_103_138 (v := (l303 ||| ((1 : Int64) <<< (v305.toInt64 &&& 63)))) rfl ?_
              refine s_las (pc := 139) rw_103_139 hG283 rfl (n := 40) rfl (A := s.toInt) rfl (by omega) (by omega) (fun M308 W307 => ?_)
              have hG309 := g_wl hG283 W307
              have F310 := FR.wl F292 W307 (show 33 = 1 ∧ 6 ≤ (s.toInt).toNat ∧ (s.toInt).toNat ≤ 11 ∨ 33 = 33 by omega)
              refine to_an (pc := 140) rw_103_140 rfl ?_
              refine s_v (pc := 141) rw_103_141 (dp0 hd (by decide)) (ls0 := [.ref 1]) rfl (Nat.le_of_ble_eq_true rfl) (Nat.le_of_ble_eq_true rfl) rfl (to_rc rfl rfl rfl (g_o hG309 rfl)) rfl ?_
              have j_311 := (CS_f (fun a i z => W_l W307 rfl) (CS_f (tg_34 F282) p_276))
              have c_312 : M308.2.1 1 9 = (M278.2.1 1 9) := (W_l W307 (F_n F282 (show ¬ (1 = 1 ∧ (9 = 10 ∨ 9 = 11)) by decide) rfl))
              have t_313 : (M308.2.1 1 9).toInt = (M278.2.1 1 9).toInt := congrArg Int32.toInt c_312
              refine E_83 hX (dp1 hd (by decide)) hG309 j_311 (by omega) (t := t) (nn := nn) (a := (x_ns t nn a)) (fun M318 hG315 F314 p_316 p_317 => ?_)
              have F319 := FR.c F310 F314 tg_124
              refine to_c (pc := 144) rw_103_144 (x := (1 : Int32)) rfl rfl ?_
              refine s_r1 (pc := 145) rw_103_145 (A := 1) rfl (by decide) ?_
              have k_320 : (1 : Int32).toInt = 1 := rfl
              have z_321 := x_ns_lt (t := t) (nn := nn) (a := a) (by omega) (x_lt_k (t := t) (by omega) (by omega))
              have z_322 := x_ns_b (t := t) (n := nn) (a := (x_ns t nn a)) (by omega) (by omega)
              exact h (1 : Int32) M318 hG315 F319 (by decide) (by decide) p_316 (by omega) (fun _ k9 => by rw [show (M318.2.1 1 9).toInt = (x_ns t nn (x_ns t nn a)) by omega]; exact (p_ndf (by omega) (by omega) (by omega)).trans (p_nb (by omega) (by omega))) (fun z => absurd z (by decide))
      · refine to_c (pc := 12) rw_44_12 (x := (1 : Int32)) rfl rfl ?_
        refine to_go (pc := 13) rw_44_13 ?_
        refine s_r1 (pc := 17) rw_44_17 (A := 1) rfl (by decide) ?_
        refine b_ieq_f (pc := 35) rw_103_35 (A := 1) rfl (by decide) ?_
        refine to_an (pc := 38) rw_103_38 rfl ?_
        refine s_gR (pc := 39) rw_103_39 hG65 rfl (v := 33) rfl ?_
        refine to_i (pc := 42) rw_103_42 rfl ?_
        refine to_dup2 (pc := 44) rw_103_44 ?_
        refine s_lalE (pc := 45) rw_103_45 hG65 rfl (n := 40) rfl (A := s.toInt) rfl (by omega) (by omega) (fun l323 w_324 => ?_)
        refine to_an (pc := 46) rw_103_46 rfl ?_
        refine s_gR (pc := 47) rw_103_47 hG65 rfl (v := 15) rfl ?_
        refine to_i (pc := 50) rw_103_50 rfl ?_
        refine s_lalE (pc := 52) rw_103_52 hG65 rfl (n := 12) rfl (A := r63.toInt) rfl (by omega) (by omega) (fun l325 w_326 => ?_)
        refine to_2l (pc := 53) rw_103_53 (v := (l323 ||| l325)) rfl ?_
        refine s_las (pc := 54) rw_103_54 hG65 rfl (n := 40) rfl (A := s.toInt) rfl (by omega) (by omega) (fun M328 W327 => ?_)
        have hG329 := g_wl hG65 W327
        have F330 := FR.wl F70 W327 (show 33 = 1 ∧ 6 ≤ (s.toInt).toNat ∧ (s.toInt).toNat ≤ 11 ∨ 33 = 33 by omega)
        refine to_an (pc := 55) rw_103_55 rfl ?_
        refine s_v (pc := 56) rw_103_56 (dp0 hd (by decide)) (ls0 := [.ref 1]) rfl (Nat.le_of_ble_eq_true rfl) (Nat.le_of_ble_eq_true rfl) rfl (to_rc rfl rfl rfl (g_o hG329 rfl)) rfl ?_
        have j_331 := (CS_f (fun a i z => W_l W327 rfl) (CS_f (tg_28 F64) q3))
        have c_332 : M328.2.1 1 9 = (M.2.1 1 9) := (W_l W327 (F_n F64 (show ¬ (1 < 0) by decide) rfl))
        have t_333 : (M328.2.1 1 9).toInt = (M.2.1 1 9).toInt := congrArg Int32.toInt c_332
        refine E_83 hX (dp1 hd (by decide)) hG329 j_331 (by omega) (t := t) (nn := nn) (a := a) (fun M338 hG335 F334 p_336 p_337 => ?_)
        have F339 := FR.c F330 F334 tg_124
        refine to_c (pc := 59) rw_103_59 (x := (1 : Int32)) rfl rfl ?_
        refine s_r1 (pc := 60) rw_103_60 (A := 1) rfl (by decide) ?_
        have k_340 : (1 : Int32).toInt = 1 := rfl
        have z_341 := x_ns_lt (t := t) (nn := nn) (a := a) (by omega) (x_lt_k (t := t) (by omega) (by omega))
        exact h (1 : Int32) M338 hG335 F339 (by decide) (by decide) p_336 (by omega) (fun _ k9 => by rw [show (M338.2.1 1 9).toInt = (x_ns t nn a) by omega]; exact p_ndw (by omega) (by omega)) (fun z => absurd z (by decide))
