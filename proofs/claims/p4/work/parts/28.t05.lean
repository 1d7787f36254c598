theorem tg_116 : ∀ a i : Nat, (a = 1 ∧ (i = 10 ∨ i = 11)) → (a = 1 ∧ 6 ≤ i ∧ i ≤ 11 ∨ a = 33) := fun a i z => by omega
theorem tg_117 : ∀ a i : Nat, (a = 1 ∧ 6 ≤ i ∧ i ≤ 9) → (a = 1 ∧ 6 ≤ i ∧ i ≤ 11 ∨ a = 33) := fun a i z => by omega
theorem tg_118 : ∀ a i : Nat, (a < 0) → (a = 1 ∧ 6 ≤ i ∧ i ≤ 11 ∨ a = 33) := fun a i z => by omega
set_option maxRecDepth 4000 in
set_option maxHeartbeats 0 in
theorem E_103 {X : mm_X} {d : Nat} {M : mm_M} {Q : Option Value → mm_M → Prop} {p : Nat} {s : Int32} {t : Nat → Int} {nn : Int} {a : Int} {sg : x_S} (hX : g_X X) (hd : 2 ≤ d) (hG : g_G M) (hp : p = 49 ∨ p = 58) (q1 : 0 ≤ s.toInt) (q2 : s.toInt ≤ 39) (q3 : CS M t nn) (q4 : (M.2.1 1 9).toInt = a) (q5 : PLs M p sg) (h : ∀ (r : Int32) (M1 : mm_M), g_G M1 → FR md_w103 M M1 → (0 ≤ r.toInt) → (r.toInt ≤ 1) → CS M1 t nn → (r.toInt = 1 → a < (M1.2.1 1 9).toInt) → ((r.toInt = 1 → ∀ k : Int → x_WR, x_wnd t nn sg a k = k (M1.2.1 1 9).toInt)) → ((r.toInt = 0 → ∀ k : Int → x_WR, x_wnd t nn sg a k = Sum.inl ((M1.2.1 1 10).toInt, (M1.2.1 1 11).toInt))) → Q (some (.int r)) M1) : mm_T X d 103 0 [.ref 28, .ref 1, .ref p, .ref 11, .int s, .null, .null, .null, .null] [] M Q := by
  have F0 : FR md_w103 M M := FR.rf
  have c_1 := CS_u q3 (a := a) (by omega)
  unfold x_C at c_1
  have z_2 := c_1.2
  have z_3 := q5.2.1
  have z_4 := q5.2.2.1
  have z_5 := q5.2.2.2.1
  have z_6 := q5.1
  have z_7 := z_6.1
  have z_8 := z_6.2.1
  have z_9 := z_6.2.2.1
  have z_10 := z_6.2.2.2.1
  have z_11 := z_6.2.2.2.2.1
  have z_12 := z_6.2.2.2.2.2.1
  have b_13 := g_b hG (a := p) (i := 0) (lo := 10) (hi := 60) (by rcases hp with rfl | rfl <;> rfl) (by rcases hp with rfl | rfl <;> rfl)
  have b_14 := g_b hG (a := p) (i := 2) (lo := 0) (hi := 8) (by rcases hp with rfl | rfl <;> rfl) (by rcases hp with rfl | rfl <;> rfl)
  have b_15 := g_b hG (a := p) (i := 3) (lo := 0) (hi := 12) (by rcases hp with rfl | rfl <;> rfl) (by rcases hp with rfl | rfl <;> rfl)
  refine to_c (pc := 0) rw_103_0 (x := (0 : Int32)) rfl rfl ?_
  refine to_is (pc := 1) rw_103_1 (ls2 := [.ref 28, .ref 1, .ref p, .ref 11, .int s, .int (0 : Int32), .null, .null, .null]) rfl rfl ?_
  refine to_an (pc := 3) rw_103_3 rfl ?_
  refine tt_gI (pc := 4) rw_103_4 (g_o hG (by rcases hp with rfl | rfl <;> rfl)) (v := (M.2.1 p 0)) rfl ?_
  refine to_c (pc := 7) rw_103_7 (x := (1 : Int32)) rfl rfl ?_
  refine s_sub (pc := 8) rw_103_8 (A := (M.2.1 p 0).toInt) (B := 1) rfl rfl (by omega) (fun v16 e17 => ?_)
  refine to_is (pc := 9) rw_103_9 (ls2 := [.ref 28, .ref 1, .ref p, .ref 11, .int s, .int (0 : Int32), .int v16, .null, .null]) rfl rfl ?_
  refine to_an (pc := 11) rw_103_11 rfl ?_
  refine tt_gI (pc := 12) rw_103_12 (g_o hG rfl) (v := (M.2.1 1 7)) rfl ?_
  refine to_c (pc := 15) rw_103_15 (x := (3 : Int32)) rfl rfl ?_
  refine b_cne (pc := 16) rw_103_16 (A := (M.2.1 1 7).toInt) (B := 3) rfl rfl (fun h18 => ?_) (fun h18 => ?_)
  · have z_19 : ¬ x_kind t nn a = 2 := by omega
    clear c_1
    refine to_an (pc := 109) rw_103_109 rfl ?_
    refine to_c (pc := 110) rw_103_110 (x := (0 : Int32)) rfl rfl ?_
    refine to_i (pc := 111) rw_103_111 rfl ?_
    refine s_v (pc := 113) rw_103_113 (dp0 hd (by decide)) (ls0 := [.ref 1, .int (0 : Int32), .int v16]) rfl (Nat.le_of_ble_eq_true rfl) (Nat.le_of_ble_eq_true rfl) rfl (to_rc rfl rfl rfl (g_o hG rfl)) rfl ?_
    have k_20 : (0 : Int32).toInt = 0 := rfl
    refine E_88f hX (dp1 hd (by decide)) hG q3 (by omega) (l := (0 : Int32)) (m := v16) (t := t) (nn := nn) (a := a) (fun r21 M31 hG23 F22 p_24 p_25 p_26 p_27 p_28 p_29 p_30 => ?_)
    have F32 := FR.c F0 F22 tg_116
    rcases (show r21.toInt = 0 ∨ r21.toInt = 1 by omega) with h33 | h33
    · skip
      have p_34 := p_27 (by omega)
      have p_35 := p_28 (by omega)
      clear p_26 p_27 p_28
      have z_36 := x_val_b (t := t) (nn := nn) (a := a)
      refine b_ine_f (pc := 116) rw_103_116 (A := r21.toInt) rfl (by omega) ?_
      refine to_c (pc := 119) rw_103_119 (x := (0 : Int32)) rfl rfl ?_
      refine s_r1 (pc := 120) rw_103_120 (A := 0) rfl (by decide) ?_
      have c_37 : M31.2.1 1 9 = (M.2.1 1 9) := (F_n F22 (show ¬ (1 = 1 ∧ (9 = 10 ∨ 9 = 11)) by decide) rfl)
      have t_38 : (M31.2.1 1 9).toInt = (M.2.1 1 9).toInt := congrArg Int32.toInt c_37
      have j_39 := (CS_f (tg_34 F22) q3)
      exact h (0 : Int32) M31 hG23 F32 (by decide) (by decide) j_39 (by omega) (fun z => absurd z (by decide)) (fun _ k9 => if g9 : x_kind t nn a = 3 then winl (by omega) (by omega) ((p_ndn (by omega)).trans (p_nb2 g9 (by omega))) else winl (by omega) (by omega) ((p_ndn (by omega)).trans (p_nb1 g9)))
    · skip
      have p_40 := p_26 (by omega)
      clear p_26 p_27 p_28
      have c_41 : M31.2.1 1 8 = (M.2.1 1 8) := (F_n F22 (show ¬ (1 = 1 ∧ (8 = 10 ∨ 8 = 11)) by decide) rfl)
      have z_42 := x_val_b (t := t) (nn := nn) (a := a) (by omega)
      refine b_ine_t (pc := 116) rw_103_116 (A := r21.toInt) rfl (by omega) ?_
      refine to_an (pc := 121) rw_103_121 rfl ?_
      refine s_gR (pc := 122) rw_103_122 hG23 rfl (v := 33) rfl ?_
      refine to_i (pc := 125) rw_103_125 rfl ?_
      refine to_dup2 (pc := 127) rw_103_127 ?_
      refine s_lalE (pc := 128) rw_103_128 hG23 rfl (n := 40) rfl (A := s.toInt) rfl (by omega) (by omega) (fun l43 w_44 => ?_)
      refine to_cl (pc := 129) rw_103_129 rfl (x := (1 : Int64)) rfl ?_
      refine to_i (pc := 130) rw_103_130 rfl ?_
      refine to_an (pc := 132) rw_103_132 rfl ?_
      refine tt_gI (pc := 133) rw_103_133 (g_o hG23 rfl) (v := (M.2.1 1 8)) c_41 ?_
      refine s_add (pc := 136) rw_103_136 (A := 0) (B := (M.2.1 1 8).toInt) rfl rfl (by omega) (fun v45 e46 => ?_)
      refine to_2s (pc := 137) rw_103_137 (v := ((1 : Int64) <<< (v45.toInt64 &&& 63))) rfl ?_
      refine to_2l (pc := 138) rw_103_138 (v := (l43 ||| ((1 : Int64) <<< (v45.toInt64 &&& 63)))) rfl ?_
      refine s_las (pc := 139) rw_103_139 hG23 rfl (n := 40) rfl (A := s.toInt) rfl (by omega) (by omega) (fun M48 W47 => ?_)
      have hG49 := g_wl hG23 W47
      have F50 := FR.wl F32 W47 (show 33 = 1 ∧ 6 ≤ (s.toInt).toNat ∧ (s.toInt).toNat ≤ 11 ∨ 33 = 33 by omega)
      refine to_an (pc := 140) rw_103_140 rfl ?_
      refine s_v (pc := 141) rw_103_141 (dp0 hd (by decide)) (ls0 := [.ref 1]) rfl (Nat.le_of_ble_eq_true rfl) (Nat.le_of_ble_eq_true rfl) rfl (to_rc rfl rfl rfl (g_o hG49 rfl)) rfl ?_
      have j_51 := (CS_f (fun a i z => W_l W47 rfl) (CS_f (tg_34 F22) q3))
      have c_52 : M48.2.1 1 9 = (M.2.1 1 9) := (W_l W47 (F_n F22 (show ¬ (1 = 1 ∧ (9 = 10 ∨ 9 = 11)) by decide) rfl))
      have t_53 : (M48.2.1 1 9).toInt = (M.2.1 1 9).toInt := congrArg Int32.toInt c_52
      refine E_83 hX (dp1 hd (by decide)) hG49 j_51 (by omega) (t := t) (nn := nn) (a := a) (fun M58 hG55 F54 p_56 p_57 => ?_)
      have F59 := FR.c F50 F54 tg_117
      refine to_c (pc := 144) rw_103_144 (x := (1 : Int32)) rfl rfl ?_
      refine s_r1 (pc := 145) rw_103_145 (A := 1) rfl (by decide) ?_
      have k_60 : (1 : Int32).toInt = 1 := rfl
      have z_61 := x_ns_lt (t := t) (nn := nn) (a := a) (by omega) (x_lt_k (by omega) (by omega))
      exact h (1 : Int32) M58 hG55 F59 (by decide) (by decide) p_56 (by omega) (fun _ k9 => by rw [show (M58.2.1 1 9).toInt = (x_ns t nn a) by omega]; exact (p_ndn (by omega)).trans (p_nb (by omega) (by omega))) (fun z => absurd z (by decide))
  · have z_62 : x_kind t nn a = 2 ∧ x_val t nn a = (M.2.1 1 8).toInt := by omega
    clear c_1
    refine to_an (pc := 19) rw_103_19 rfl ?_
    refine to_an (pc := 20) rw_103_20 rfl ?_
    refine tt_gI (pc := 21) rw_103_21 (g_o hG rfl) (v := (M.2.1 1 8)) rfl ?_
    refine s_v (pc := 24) rw_103_24 (dp0 hd (by decide)) (ls0 := [.ref p, .int (M.2.1 1 8)]) rfl (Nat.le_of_ble_eq_true rfl) (Nat.le_of_ble_eq_true rfl) rfl (to_rc rfl rfl rfl (g_o hG (by rcases hp with rfl | rfl <;> rfl))) rfl ?_
    refine to_an (pc := 0) rw_53_0 rfl ?_
    refine s_gR (pc := 1) rw_53_1 hG (by rcases hp with rfl | rfl <;> rfl) (v := (p + 6)) (by rcases hp with rfl | rfl <;> rfl) ?_
    refine to_an (pc := 4) rw_53_4 rfl ?_
    refine tt_gI (pc := 5) rw_53_5 (g_o hG (by rcases hp with rfl | rfl <;> rfl)) (v := (M.2.1 p 3)) rfl ?_
    refine to_in (pc := 8) rw_53_8 rfl ?_
    refine s_s (pc := 9) rw_53_9 (dp1 hd (by decide)) (ls0 := [.ref (p + 6), .int (M.2.1 p 3), .int (M.2.1 1 8), .null]) rfl (Nat.le_of_ble_eq_true rfl) (Nat.le_of_ble_eq_true rfl) rfl (to_rcs rfl rfl) rfl ?_
    refine E_54g hX (dp2 hd (by decide)) hG (by omega) (by omega) (by omega) (g := (p + 6)) (s := (M.2.1 p 3)) (x := (M.2.1 1 8)) (fun r63 M69 hG65 F64 p_66 p_67 p_68 => ?_)
    have F70 := FR.c F0 F64 tg_118
    have z_71 := PLs_w (v := (M.2.1 1 8).toInt) q5 (n := (M.2.1 p 3).toInt) (by omega)
    have z_72 := x_fn_v (s := sg) (r := 6) (v := (M.2.1 1 8).toInt) (w := x_val t nn a) (by omega)
    refine to_r0 (pc := 12) rw_53_12 ?_
    refine to_is (pc := 27) rw_103_27 (ls2 := [.ref 28, .ref 1, .ref p, .ref 11, .int s, .int (0 : Int32), .int v16, .int r63, .null]) rfl rfl ?_
    refine to_an (pc := 29) rw_103_29 rfl ?_
    refine to_i (pc := 30) rw_103_30 rfl ?_
    refine s_v (pc := 32) rw_103_32 (dp0 hd (by decide)) (ls0 := [.ref p, .int r63]) rfl (Nat.le_of_ble_eq_true rfl) (Nat.le_of_ble_eq_true rfl) rfl (to_rc rfl rfl rfl (g_o hG65 (by rcases hp with rfl | rfl <;> rfl))) rfl ?_
    refine to_in (pc := 0) rw_44_0 rfl ?_
    refine b_ilt (pc := 1) rw_44_1 (A := r63.toInt) rfl (fun h73 => ?_) (fun h73 => ?_)
    · refine to_c (pc := 16) rw_44_16 (x := (0 : Int32)) rfl rfl ?_
      refine s_r1 (pc := 17) rw_44_17 (A := 0) rfl (by decide) ?_
      refine b_ieq_t (pc := 35) rw_103_35 (A := 0) rfl (by decide) ?_
      refine to_an (pc := 61) rw_103_61 rfl ?_
      refine to_an (pc := 62) rw_103_62 rfl ?_
      have c_74 : M69.2.1 1 8 = (M.2.1 1 8) := (F_n F64 (show ¬ (1 < 0) by decide) rfl)
      refine tt_gI (pc := 63) rw_103_63 (g_o hG65 rfl) (v := (M.2.1 1 8)) c_74 ?_
      refine s_v (pc := 66) rw_103_66 (dp0 hd (by decide)) (ls0 := [.ref p, .int (M.2.1 1 8)]) rfl (Nat.le_of_ble_eq_true rfl) (Nat.le_of_ble_eq_true rfl) rfl (to_rc rfl rfl rfl (g_o hG65 (by rcases hp with rfl | rfl <;> rfl))) rfl ?_
      refine to_an (pc := 0) rw_52_0 rfl ?_
      refine s_gR (pc := 1) rw_52_1 hG65 (by rcases hp with rfl | rfl <;> rfl) (v := (p + 1)) (by rcases hp with rfl | rfl <;> rfl) ?_
      refine to_an (pc := 4) rw_52_4 rfl ?_
      have c_75 : M69.2.1 p 2 = (M.2.1 p 2) := (F_n F64 (show ¬ (p < 0) by omega) rfl)
      refine tt_gI (pc := 5) rw_52_5 (g_o hG65 (by rcases hp with rfl | rfl <;> rfl)) (v := (M.2.1 p 2)) c_75 ?_
      refine to_in (pc := 8) rw_52_8 rfl ?_
      refine s_s (pc := 9) rw_52_9 (dp1 hd (by decide)) (ls0 := [.ref (p + 1), .int (M.2.1 p 2), .int (M.2.1 1 8), .null]) rfl (Nat.le_of_ble_eq_true rfl) (Nat.le_of_ble_eq_true rfl) rfl (to_rcs rfl rfl) rfl ?_
      have j_76 := (PLs_f (fun a i z => F_n F64 (show ¬ (a < 0) by omega) rfl) q5)
      refine E_54f hX (dp2 hd (by decide)) hG65 (by omega) (by omega) (by omega) (f := (p + 1)) (s := (M.2.1 p 2)) (x := (M.2.1 1 8)) (fun r77 M83 hG79 F78 p_80 p_81 p_82 => ?_)
      have F84 := FR.c F70 F78 tg_118
      have z_85 := PLs_n (v := (M.2.1 1 8).toInt) j_76 (n := (M.2.1 p 2).toInt) (by omega)
      have z_86 := x_fn_v (s := sg) (r := 1) (v := (M.2.1 1 8).toInt) (w := x_val t nn a) (by omega)
      have z_87 := x_fn_b (s := sg) (v := x_val t nn a) j_76.1
      refine to_r0 (pc := 12) rw_52_12 ?_
      refine to_is (pc := 69) rw_103_69 (ls2 := [.ref 28, .ref 1, .ref p, .ref 11, .int s, .int (0 : Int32), .int v16, .int r63, .int r77]) rfl rfl ?_
      refine to_an (pc := 71) rw_103_71 rfl ?_
      refine to_i (pc := 72) rw_103_72 rfl ?_
      refine s_v (pc := 74) rw_103_74 (dp0 hd (by decide)) (ls0 := [.ref p, .int r77]) rfl (Nat.le_of_ble_eq_true rfl) (Nat.le_of_ble_eq_true rfl) rfl (to_rc rfl rfl rfl (g_o hG79 (by rcases hp with rfl | rfl <;> rfl))) rfl ?_
      refine to_in (pc := 0) rw_43_0 rfl ?_
      refine b_ilt (pc := 1) rw_43_1 (A := r77.toInt) rfl (fun h88 => ?_) (fun h88 => ?_)
      · refine to_c (pc := 16) rw_43_16 (x := (0 : Int32)) rfl rfl ?_
        refine s_r1 (pc := 17) rw_43_17 (A := 0) rfl (by decide) ?_
        refine b_ine_f (pc := 77) rw_103_77 (A := 0) rfl (by decide) ?_
        refine to_an (pc := 80) rw_103_80 rfl ?_
        refine to_c (pc := 81) rw_103_81 (x := (4 : Int32)) rfl rfl ?_
        refine s_v (pc := 82) rw_103_82 (dp0 hd (by decide)) (ls0 := [.ref 1, .int (4 : Int32)]) rfl (Nat.le_of_ble_eq_true rfl) (Nat.le_of_ble_eq_true rfl) rfl (to_rc rfl rfl rfl (g_o hG79 rfl)) rfl ?_
        refine to_an (pc := 0) rw_84_0 rfl ?_
        refine to_in (pc := 1) rw_84_1 rfl ?_
        refine s_pI (pc := 2) rw_84_2 hG79 rfl (fun M90 W89 => ?_)
        have hG91 := g_wf hG79 W89 rfl rfl (by decide)
        have F92 := FR.w F84 W89 (show 1 = 1 ∧ 6 ≤ 10 ∧ 10 ≤ 11 ∨ 1 = 33 by decide)
        refine to_an (pc := 5) rw_84_5 rfl ?_
        refine to_an (pc := 6) rw_84_6 rfl ?_
        have c_93 : M90.2.1 1 9 = (M.2.1 1 9) := (W_n W89 (by decide) (F_n F78 (show ¬ (1 < 0) by decide) (F_n F64 (show ¬ (1 < 0) by decide) rfl)))
        refine tt_gI (pc := 7) rw_84_7 (g_o hG91 rfl) (v := (M.2.1 1 9)) c_93 ?_
        refine s_pI (pc := 10) rw_84_10 hG91 rfl (fun M95 W94 => ?_)
        have hG96 := g_wf hG91 W94 rfl rfl (by decide)
        have F97 := FR.w F92 W94 (show 1 = 1 ∧ 6 ≤ 11 ∧ 11 ≤ 11 ∨ 1 = 33 by decide)
        refine to_c (pc := 13) rw_84_13 (x := (0 : Int32)) rfl rfl ?_
        refine s_r1 (pc := 14) rw_84_14 (A := 0) rfl (by decide) ?_
        refine s_r1 (pc := 85) rw_103_85 (A := 0) rfl (by decide) ?_
        have k_98 : (0 : Int32).toInt = 0 := rfl
        have c_99 : M95.2.1 1 9 = (M.2.1 1 9) := (W_n W94 (by decide) c_93)
        have t_100 : (M95.2.1 1 9).toInt = (M.2.1 1 9).toInt := congrArg Int32.toInt c_99
        have j_101 := (CS_f (fun a i z => W_n W94 (tg_32 a i z) rfl) (CS_f (fun a i z => W_n W89 (tg_33 a i z) rfl) (CS_f (tg_28 F78) (CS_f (tg_28 F64) q3))))
        have c_102 : M95.2.1 1 10 = (4 : Int32) := (W_n W94 (by decide) (W_e W89))
        have k_103 : (4 : Int32).toInt = 4 := rfl
        have t_104 : (M95.2.1 1 10).toInt = (4 : Int32).toInt := congrArg Int32.toInt c_102
        have c_105 : M95.2.1 1 11 = (M.2.1 1 9) := (W_e W94)
        have t_106 : (M95.2.1 1 11).toInt = (M.2.1 1 9).toInt := congrArg Int32.toInt c_105
        exact h (0 : Int32) M95 hG96 F97 (by decide) (by decide) j_101 (by omega) (fun z => absurd z (by decide)) (fun _ k9 => winl (by omega) (by omega) (p_ndx (by omega) (by omega) (by omega)))
      · refine to_in (pc := 4) rw_43_4 rfl ?_
        refine to_an (pc := 5) rw_43_5 rfl ?_
        have c_107 : M83.2.1 p 2 = (M.2.1 p 2) := (F_n F78 (show ¬ (p < 0) by omega) c_75)
        refine tt_gI (pc := 6) rw_43_6 (g_o hG79 (by rcases hp with rfl | rfl <;> rfl)) (v := (M.2.1 p 2)) c_107 ?_
        refine b_cge (pc := 9) rw_43_9 (A := r77.toInt) (B := (M.2.1 p 2).toInt) rfl rfl (fun h108 => ?_) (fun h108 => ?_)
        · refine to_c (pc := 16) rw_43_16 (x := (0 : Int32)) rfl rfl ?_
          refine s_r1 (pc := 17) rw_43_17 (A := 0) rfl (by decide) ?_
          refine b_ine_f (pc := 77) rw_103_77 (A := 0) rfl (by decide) ?_
          refine to_an (pc := 80) rw_103_80 rfl ?_
          refine to_c (pc := 81) rw_103_81 (x := (4 : Int32)) rfl rfl ?_
          refine s_v (pc := 82) rw_103_82 (dp0 hd (by decide)) (ls0 := [.ref 1, .int (4 : Int32)]) rfl (Nat.le_of_ble_eq_true rfl) (Nat.le_of_ble_eq_true rfl) rfl (to_rc rfl rfl rfl (g_o hG79 rfl)) rfl ?_
          refine to_an (pc := 0) rw_84_0 rfl ?_
          refine to_in (pc := 1) rw_84_1 rfl ?_
          refine s_pI (pc := 2) rw_84_2 hG79 rfl (fun M110 W109 => ?_)
          have hG111 := g_wf hG79 W109 rfl rfl (by decide)
          have F112 := FR.w F84 W109 (show 1 = 1 ∧ 6 ≤ 10 ∧ 10 ≤ 11 ∨ 1 = 33 by decide)
          refine to_an (pc := 5) rw_84_5 rfl ?_
          refine to_an (pc := 6) rw_84_6 rfl ?_
          have c_113 : M110.2.1 1 9 = (M.2.1 1 9) := (W_n W109 (by decide) (F_n F78 (show ¬ (1 < 0) by decide) (F_n F64 (show ¬ (1 < 0) by decide) rfl)))
          refine tt_gI (pc := 7) rw_84_7 (g_o hG111 rfl) (v := (M.2.1 1 9)) c_113 ?_
          refine s_pI (pc := 10) rw_84_10 hG111 rfl (fun M115 W114 => ?_)
          have hG116 := g_wf hG111 W114 rfl rfl (by decide)
          have F117 := FR.w F112 W114 (show 1 = 1 ∧ 6 ≤ 11 ∧ 11 ≤ 11 ∨ 1 = 33 by decide)
          refine to_c (pc := 13) rw_84_13 (x := (0 : Int32)) rfl rfl ?_
          refine s_r1 (pc := 14) rw_84_14 (A := 0) rfl (by decide) ?_
          refine s_r1 (pc := 85) rw_103_85 (A := 0) rfl (by decide) ?_
          have k_118 : (0 : Int32).toInt = 0 := rfl
          have c_119 : M115.2.1 1 9 = (M.2.1 1 9) := (W_n W114 (by decide) c_113)
          have t_120 : (M115.2.1 1 9).toInt = (M.2.1 1 9).toInt := congrArg Int32.toInt c_119
          have j_121 := (CS_f (fun a i z => W_n W114 (tg_32 a i z) rfl) (CS_f (fun a i z => W_n W109 (tg_33 a i z) rfl) (CS_f (tg_28 F78) (CS_f (tg_28 F64) q3))))
          have c_122 : M115.2.1 1 10 = (4 : Int32) := (W_n W114 (by decide) (W_e W109))
          have k_123 : (4 : Int32).toInt = 4 := rfl
          have t_124 : (M115.2.1 1 10).toInt = (4 : Int32).toInt := congrArg Int32.toInt c_122
          have c_125 : M115.2.1 1 11 = (M.2.1 1 9) := (W_e W114)
          have t_126 : (M115.2.1 1 11).toInt = (M.2.1 1 9).toInt := congrArg Int32.toInt c_125
          exact h (0 : Int32) M115 hG116 F117 (by decide) (by decide) j_121 (by omega) (fun z => absurd z (by decide)) (fun _ k9 => winl (by omega) (by omega) (p_ndx (by omega) (by omega) (by omega)))
        · refine to_c (pc := 12) rw_43_12 (x := (1 : Int32)) rfl rfl ?_
          refine to_go (pc := 13) rw_43_13 ?_
          refine s_r1 (pc := 17) rw_43_17 (A := 1) rfl (by decide) ?_
          refine b_ine_t (pc := 77) rw_103_77 (A := 1) rfl (by decide) ?_
          refine to_an (pc := 86) rw_103_86 rfl ?_
          refine s_gR (pc := 87) rw_103_87 hG79 (by rcases hp with rfl | rfl <;> rfl) (v := (p + 3)) (by rcases hp with rfl | rfl <;> rfl) ?_
          refine to_i (pc := 90) rw_103_90 rfl ?_
          refine s_ial (pc := 92) rw_103_92 hG79 (by rcases hp with rfl | rfl <;> rfl) (n := 8) (by rcases hp with rfl | rfl <;> rfl) (by rcases hp with rfl | rfl <;> rfl) (A := r77.toInt) rfl (by omega) (by omega) (lo := 0) (hi := 59) (by rcases hp with rfl | rfl <;> rfl) (by rcases hp with rfl | rfl <;> rfl) (fun v127 w_128 _ _ => ?_)
          have j_129 := (PLs_f (fun a i z => F_n F78 (show ¬ (a < 0) by omega) rfl) j_76)
          have z_130 := PLs_r j_129 3 (by decide) (by decide) (k := r77.toInt) (by omega) (by omega) w_128
          have z_131 := x_row_v (s := sg) (r := 3) (x := r77.toInt) (y := x_fn sg 1 (x_val t nn a)) (by omega)
          have z_132 := j_129.1.2.2.2.2.2.2.2 (x_fn sg 1 (x_val t nn a)) (by omega) (by omega)
          refine to_is (pc := 93) rw_103_93 (ls2 := [.ref 28, .ref 1, .ref p, .ref 11, .int s, .int v127, .int v16, .int r63, .int r77]) rfl rfl ?_
          refine to_an (pc := 95) rw_103_95 rfl ?_
          refine to_i (pc := 96) rw_103_96 rfl ?_
          refine s_v (pc := 98) rw_103_98 (dp0 hd (by decide)) (ls0 := [.ref p, .int r77]) rfl (Nat.le_of_ble_eq_true rfl) (Nat.le_of_ble_eq_true rfl) rfl (to_rc rfl rfl rfl (g_o hG79 (by rcases hp with rfl | rfl <;> rfl))) rfl ?_
          refine to_an (pc := 0) rw_47_0 rfl ?_
          refine s_gR (pc := 1) rw_47_1 hG79 (by rcases hp with rfl | rfl <;> rfl) (v := (p + 4)) (by rcases hp with rfl | rfl <;> rfl) ?_
          refine to_in (pc := 4) rw_47_4 rfl ?_
          refine s_ial (pc := 5) rw_47_5 hG79 (by rcases hp with rfl | rfl <;> rfl) (n := 8) (by rcases hp with rfl | rfl <;> rfl) (by rcases hp with rfl | rfl <;> rfl) (A := r77.toInt) rfl (by omega) (by omega) (lo := 0) (hi := 63) (by rcases hp with rfl | rfl <;> rfl) (by rcases hp with rfl | rfl <;> rfl) (fun v133 w_134 _ _ => ?_)
          have z_135 := PLs_r j_129 4 (by decide) (by decide) (k := r77.toInt) (by omega) (by omega) w_134
          have z_136 := x_row_v (s := sg) (r := 4) (x := r77.toInt) (y := x_fn sg 1 (x_val t nn a)) (by omega)
          refine to_an (pc := 6) rw_47_6 rfl ?_
          refine s_gR (pc := 7) rw_47_7 hG79 (by rcases hp with rfl | rfl <;> rfl) (v := (p + 3)) (by rcases hp with rfl | rfl <;> rfl) ?_
          refine to_in (pc := 10) rw_47_10 rfl ?_
          refine s_ialk (pc := 11) rw_47_11 hG79 (by rcases hp with rfl | rfl <;> rfl) (n := 8) (by rcases hp with rfl | rfl <;> rfl) (by rcases hp with rfl | rfl <;> rfl) (A := r77.toInt) rfl (by omega) (by omega) (v := v127) w_128 ?_
          refine s_sub (pc := 12) rw_47_12 (A := v133.toInt) (B := v127.toInt) rfl rfl (by omega) (fun v139 e140 => ?_)
          refine to_c (pc := 13) rw_47_13 (x := (1 : Int32)) rfl rfl ?_
          refine s_add (pc := 14) rw_47_14 (A := v139.toInt) (B := 1) rfl rfl (by omega) (fun v141 e142 => ?_)
          refine to_r0 (pc := 15) rw_47_15 ?_
          refine to_c (pc := 101) rw_103_101 (x := (1 : Int32)) rfl rfl ?_
          refine s_sub (pc := 102) rw_103_102 (A := v141.toInt) (B := 1) rfl rfl (by omega) (fun v143 e144 => ?_)
          refine to_is (pc := 103) rw_103_103 (ls2 := [.ref 28, .ref 1, .ref p, .ref 11, .int s, .int v127, .int v143, .int r63, .int r77]) rfl rfl ?_
          refine to_an (pc := 105) rw_103_105 rfl ?_
          refine s_v (pc := 106) rw_103_106 (dp0 hd (by decide)) (ls0 := [.ref 1]) rfl (Nat.le_of_ble_eq_true rfl) (Nat.le_of_ble_eq_true rfl) rfl (to_rc rfl rfl rfl (g_o hG79 rfl)) rfl ?_
          have j_145 := (CS_f (tg_28 F78) (CS_f (tg_28 F64) q3))
          have c_146 : M83.2.1 1 9 = (M.2.1 1 9) := (F_n F78 (show ¬ (1 < 0) by decide) (F_n F64 (show ¬ (1 < 0) by decide) rfl))
          have t_147 : (M83.2.1 1 9).toInt = (M.2.1 1 9).toInt := congrArg Int32.toInt c_146
          refine E_83 hX (dp1 hd (by decide)) hG79 j_145 (by omega) (t := t) (nn := nn) (a := a) (fun M152 hG149 F148 p_150 p_151 => ?_)
          have F153 := FR.c F84 F148 tg_117
          refine to_an (pc := 109) rw_103_109 rfl ?_
          refine to_c (pc := 110) rw_103_110 (x := (0 : Int32)) rfl rfl ?_
          refine to_i (pc := 111) rw_103_111 rfl ?_
          refine s_v (pc := 113) rw_103_113 (dp0 hd (by decide)) (ls0 := [.ref 1, .int (0 : Int32), .int v143]) rfl (Nat.le_of_ble_eq_true rfl) (Nat.le_of_ble_eq_true rfl) rfl (to_rc rfl rfl rfl (g_o hG149 rfl)) rfl ?_
          have k_154 : (0 : Int32).toInt = 0 := rfl
          refine E_88f hX (dp1 hd (by decide)) hG149 p_150 (by omega) (l := (0 : Int32)) (m := v143) (t := t) (nn := nn) (a := (x_ns t nn a)) (fun r155 M165 hG157 F156 p_158 p_159 p_160 p_161 p_162 p_163 p_164 => ?_)
          have F166 := FR.c F153 F156 tg_116
          rcases (show r155.toInt = 0 ∨ r155.toInt = 1 by omega) with h167 | h167
          · skip
            have p_168 := p_161 (by omega)
            have p_169 := p_162 (by omega)
            clear p_160 p_161 p_162
            have z_170 := x_val_b (t := t) (nn := nn) (a := (x_ns t nn a))
            refine b_ine_f (pc := 116) rw_103_116 (A := r155.toInt) rfl (by omega) ?_
            refine to_c (pc := 119) rw_103_119 (x := (0 : Int32)) rfl rfl ?_
            refine s_r1 (pc := 120) rw_103_120 (A := 0) rfl (by decide) ?_
            have c_171 : M165.2.1 1 9 = (M152.2.1 1 9) := (F_n F156 (show ¬ (1 = 1 ∧ (9 = 10 ∨ 9 = 11)) by decide) rfl)
            have t_172 : (M165.2.1 1 9).toInt = (M152.2.1 1 9).toInt := congrArg Int32.toInt c_171
            have j_173 := (CS_f (tg_34 F156) p_150)
            exact h (0 : Int32) M165 hG157 F166 (by decide) (by decide) j_173 (by omega) (fun z => absurd z (by decide)) (fun _ k9 => if g9 : x_kind t nn (x_ns t nn a) = 3 then winl (by omega) (by omega) ((p_ndf (by omega) (by omega) (by omega)).trans (p_nb2 g9 (by omega))) else winl (by omega) (by omega) ((p_ndf (by omega) (by omega) (by omega)).trans (p_nb1 g9)))
          · skip
            have p_174 := p_160 (by omega)
            clear p_160 p_161 p_162
            have c_175 : M165.2.1 1 8 = (M152.2.1 1 8) := (F_n F156 (show ¬ (1 = 1 ∧ (8 = 10 ∨ 8 = 11)) by decide) rfl)
            have z_176 := x_val_b (t := t) (nn := nn) (a := (x_ns t nn a)) (by omega)
            refine b_ine_t (pc := 116) rw_103_116 (A := r155.toInt) rfl (by omega) ?_
            refine to_an (pc := 121) rw_103_121 rfl ?_
            refine s_gR (pc := 122) rw_103_122 hG157 rfl (v := 33) rfl ?_
            refine to_i (pc := 125) rw_103_125 rfl ?_
            refine to_dup2 (pc := 127) rw_103_127 ?_
            refine s_lalE (pc := 128) rw_103_128 hG157 rfl (n := 40) rfl (A := s.toInt) rfl (by omega) (by omega) (fun l177 w_178 => ?_)
            refine to_cl (pc := 129) rw_103_129 rfl (x := (1 : Int64)) rfl ?_
            refine to_i (pc := 130) rw_103_130 rfl ?_
            refine to_an (pc := 132) rw_103_132 rfl ?_
            refine tt_gI (pc := 133) rw_103_133 (g_o hG157 rfl) (v := (M152.2.1 1 8)) c_175 ?_
            refine s_add (pc := 136) rw_103_136 (A := v127.toInt) (B := (M152.2.1 1 8).toInt) rfl rfl (by omega) (fun v179 e180 => ?_)
            refine to_2s (pc := 137) rw_103_137 (v := ((1 : Int64) <<< (v179.toInt64 &&& 63))) rfl ?_
            refine to_2l (pc := 138) rw_103_138 (v := (l177 ||| ((1 : Int64) <<< (v179.toInt64 &&& 63)))) rfl ?_
            refine s_las (pc := 139) rw_103_139 hG157 rfl (n := 40) rfl (A := s.toInt) rfl (by omega) (by omega) (fun M182 W181 => ?_)
            have hG183 := g_wl hG157 W181
            have F184 := FR.wl F166 W181 (show 33 = 1 ∧ 6 ≤ (s.toInt).toNat ∧ (s.toInt).toNat ≤ 11 ∨ 33 = 33 by omega)
            refine to_an (pc := 140) rw_103_140 rfl ?_
            refine s_v (pc := 141) rw_103_141 (dp0 hd (by decide)) (ls0 := [.ref 1]) rfl (Nat.le_of_ble_eq_true rfl) (Nat.le_of_ble_eq_true rfl) rfl (to_rc rfl rfl rfl (g_o hG183 rfl)) rfl ?_
            have j_185 := (CS_f (fun a i z => W_l W181 rfl) (CS_f (tg_34 F156) p_150))
            have c_186 : M182.2.1 1 9 = (M152.2.1 1 9) := (W_l W181 (F_n F156 (show ¬ (1 = 1 ∧ (9 = 10 ∨ 9 = 11)) by decide) rfl))
            have t_187 : (M182.2.1 1 9).toInt = (M152.2.1 1 9).toInt := congrArg Int32.toInt c_186
            refine E_83 hX (dp1 hd (by decide)) hG183 j_185 (by omega) (t := t) (nn := nn) (a := (x_ns t nn a)) (fun M192 hG189 F188 p_190 p_191 => ?_)
            have F193 := FR.c F184 F188 tg_117
            refine to_c (pc := 144) rw_103_144 (x := (1 : Int32)) rfl rfl ?_
            refine s_r1 (pc := 145) rw_103_145 (A := 1) rfl (by decide) ?_
            have k_194 : (1 : Int32).toInt = 1 := rfl
            have z_195 := x_ns_lt (t := t) (nn := nn) (a := a) (by omega) (x_lt_k (by omega) (by omega))
            have z_196 := x_ns_b (t := t) (n := nn) (a := (x_ns t nn a)) (by omega) (by omega)
            exact h (1 : Int32) M192 hG189 F193 (by decide) (by decide) p_190 (by omega) (fun _ k9 => by rw [show (M192.2.1 1 9).toInt = (x_ns t nn (x_ns t nn a)) by omega]; exact (p_ndf (by omega) (by omega) (by omega)).trans (p_nb (by omega) (by omega))) (fun z => absurd z (by decide))
    · refine to_in (pc := 4) rw_44_4 rfl ?_
      refine to_an (pc := 5) rw_44_5 rfl ?_
      have c_197 : M69.2.1 p 3 = (M.2.1 p 3) := (F_n F64 (show ¬ (p < 0) by omega) rfl)
      refine tt_gI (pc := 6) rw_44_6 (g_o hG65 (by rcases hp with rfl | rfl <;> rfl)) (v := (M.2.1 p 3)) c_197 ?_
      refine b_cge (pc := 9) rw_44_9 (A := r63.toInt) (B := (M.2.1 p 3).toInt) rfl rfl (fun h198 => ?_) (fun h198 => ?_)
      · refine to_c (pc := 16) rw_44_16 (x := (0 : Int32)) rfl rfl ?_
        refine s_r1 (pc := 17) rw_44_17 (A := 0) rfl (by decide) ?_
        refine b_ieq_t (pc := 35) rw_103_35 (A := 0) rfl (by decide) ?_
        refine to_an (pc := 61) rw_103_61 rfl ?_
        refine to_an (pc := 62) rw_103_62 rfl ?_
        have c_199 : M69.2.1 1 8 = (M.2.1 1 8) := (F_n F64 (show ¬ (1 < 0) by decide) rfl)
        refine tt_gI (pc := 63) rw_103_63 (g_o hG65 rfl) (v := (M.2.1 1 8)) c_199 ?_
        refine s_v (pc := 66) rw_103_66 (dp0 hd (by decide)) (ls0 := [.ref p, .int (M.2.1 1 8)]) rfl (Nat.le_of_ble_eq_true rfl) (Nat.le_of_ble_eq_true rfl) rfl (to_rc rfl rfl rfl (g_o hG65 (by rcases hp with rfl | rfl <;> rfl))) rfl ?_
        refine to_an (pc := 0) rw_52_0 rfl ?_
        refine s_gR (pc := 1) rw_52_1 hG65 (by rcases hp with rfl | rfl <;> rfl) (v := (p + 1)) (by rcases hp with rfl | rfl <;> rfl) ?_
        refine to_an (pc := 4) rw_52_4 rfl ?_
        have c_200 : M69.2.1 p 2 = (M.2.1 p 2) := (F_n F64 (show ¬ (p < 0) by omega) rfl)
        refine tt_gI (pc := 5) rw_52_5 (g_o hG65 (by rcases hp with rfl | rfl <;> rfl)) (v := (M.2.1 p 2)) c_200 ?_
        refine to_in (pc := 8) rw_52_8 rfl ?_
        refine s_s (pc := 9) rw_52_9 (dp1 hd (by decide)) (ls0 := [.ref (p + 1), .int (M.2.1 p 2), .int (M.2.1 1 8), .null]) rfl (Nat.le_of_ble_eq_true rfl) (Nat.le_of_ble_eq_true rfl) rfl (to_rcs rfl rfl) rfl ?_
        have j_201 := (PLs_f (fun a i z => F_n F64 (show ¬ (a < 0) by omega) rfl) q5)
        refine E_54f hX (dp2 hd (by decide)) hG65 (by omega) (by omega) (by omega) (f := (p + 1)) (s := (M.2.1 p 2)) (x := (M.2.1 1 8)) (fun r202 M208 hG204 F203 p_205 p_206 p_207 => ?_)
        have F209 := FR.c F70 F203 tg_118
        have z_210 := PLs_n (v := (M.2.1 1 8).toInt) j_201 (n := (M.2.1 p 2).toInt) (by omega)
        have z_211 := x_fn_v (s := sg) (r := 1) (v := (M.2.1 1 8).toInt) (w := x_val t nn a) (by omega)
        have z_212 := x_fn_b (s := sg) (v := x_val t nn a) j_201.1
        refine to_r0 (pc := 12) rw_52_12 ?_
        refine to_is (pc := 69) rw_103_69 (ls2 := [.ref 28, .ref 1, .ref p, .ref 11, .int s, .int (0 : Int32), .int v16, .int r63, .int r202]) rfl rfl ?_
        refine to_an (pc := 71) rw_103_71 rfl ?_
        refine to_i (pc := 72) rw_103_72 rfl ?_
        refine s_v (pc := 74) rw_103_74 (dp0 hd (by decide)) (ls0 := [.ref p, .int r202]) rfl (Nat.le_of_ble_eq_true rfl) (Nat.le_of_ble_eq_true rfl) rfl (to_rc rfl rfl rfl (g_o hG204 (by rcases hp with rfl | rfl <;> rfl))) rfl ?_
        refine to_in (pc := 0) rw_43_0 rfl ?_
        refine b_ilt (pc := 1) rw_43_1 (A := r202.toInt) rfl (fun h213 => ?_) (fun h213 => ?_)
        · refine to_c (pc := 16) rw_43_16 (x := (0 : Int32)) rfl rfl ?_
          refine s_r1 (pc := 17) rw_43_17 (A := 0) rfl (by decide) ?_
          refine b_ine_f (pc := 77) rw_103_77 (A := 0) rfl (by decide) ?_
          refine to_an (pc := 80) rw_103_80 rfl ?_
          refine to_c (pc := 81) rw_103_81 (x := (4 : Int32)) rfl rfl ?_
          refine s_v (pc := 82) rw_103_82 (dp0 hd (by decide)) (ls0 := [.ref 1, .int (4 : Int32)]) rfl (Nat.le_of_ble_eq_true rfl) (Nat.le_of_ble_eq_true rfl) rfl (to_rc rfl rfl rfl (g_o hG204 rfl)) rfl ?_
          refine to_an (pc := 0) rw_84_0 rfl ?_
          refine to_in (pc := 1) rw_84_1 rfl ?_
          refine s_pI (pc := 2) rw_84_2 hG204 rfl (fun M215 W214 => ?_)
          have hG216 := g_wf hG204 W214 rfl rfl (by decide)
          have F217 := FR.w F209 W214 (show 1 = 1 ∧ 6 ≤ 10 ∧ 10 ≤ 11 ∨ 1 = 33 by decide)
          refine to_an (pc := 5) rw_84_5 rfl ?_
          refine to_an (pc := 6) rw_84_6 rfl ?_
          have c_218 : M215.2.1 1 9 = (M.2.1 1 9) := (W_n W214 (by decide) (F_n F203 (show ¬ (1 < 0) by decide) (F_n F64 (show ¬ (1 < 0) by decide) rfl)))
          refine tt_gI (pc := 7) rw_84_7 (g_o hG216 rfl) (v := (M.2.1 1 9)) c_218 ?_
          refine s_pI (pc := 10) rw_84_10 hG216 rfl (fun M220 W219 => ?_)
          have hG221 := g_wf hG216 W219 rfl rfl (by decide)
          have F222 := FR.w F217 W219 (show 1 = 1 ∧ 6 ≤ 11 ∧ 11 ≤ 11 ∨ 1 = 33 by decide)
          refine to_c (pc := 13) rw_84_13 (x := (0 : Int32)) rfl rfl ?_
          refine s_r1 (pc := 14) rw_84_14 (A := 0) rfl (by decide) ?_
          refine s_r1 (pc := 85) rw_103_85 (A := 0) rfl (by decide) ?_
          have k_223 : (0 : Int32).toInt = 0 := rfl
          have c_224 : M220.2.1 1 9 = (M.2.1 1 9) := (W_n W219 (by decide) c_218)
          have t_225 : (M220.2.1 1 9).toInt = (M.2.1 1 9).toInt := congrArg Int32.toInt c_224
          have j_226 := (CS_f (fun a i z => W_n W219 (tg_32 a i z) rfl) (CS_f (fun a i z => W_n W214 (tg_33 a i z) rfl) (CS_f (tg_28 F203) (CS_f (tg_28 F64) q3))))
          have c_227 : M220.2.1 1 10 = (4 : Int32) := (W_n W219 (by decide) (W_e W214))
          have k_228 : (4 : Int32).toInt = 4 := rfl
          have t_229 : (M220.2.1 1 10).toInt = (4 : Int32).toInt := congrArg Int32.toInt c_227
          have c_230 : M220.2.1 1 11 = (M.2.1 1 9) := (W_e W219)
          have t_231 : (M220.2.1 1 11).toInt = (M.2.1 1 9).toInt := congrArg Int32.toInt c_230
          exact h (0 : Int32) M220 hG221 F222 (by decide) (by decide) j_226 (by omega) (fun z => absurd z (by decide)) (fun _ k9 => winl (by omega) (by omega) (p_ndx (by omega) (by omega) (by omega)))
        · refine to_in (pc := 4) rw_43_4 rfl ?_
          refine to_an (pc := 5) rw_43_5 rfl ?_
          have c_232 : M208.2.1 p 2 = (M.2.1 p 2) := (F_n F203 (show ¬ (p < 0) by omega) c_200)
          refine tt_gI (pc := 6) rw_43_6 (g_o hG204 (by rcases hp with rfl | rfl <;> rfl)) (v := (M.2.1 p 2)) c_232 ?_
          refine b_cge (pc := 9) rw_43_9 (A := r202.toInt) (B := (M.2.1 p 2).toInt) rfl rfl (fun h233 => ?_) (fun h233 => ?_)
          · refine to_c (pc := 16) rw_43_16 (x := (0 : Int32)) rfl rfl ?_
            refine s_r1 (pc := 17) rw_43_17 (A := 0) rfl (by decide) ?_
            refine b_ine_f (pc := 77) rw_103_77 (A := 0) rfl (by decide) ?_
            refine to_an (pc := 80) rw_103_80 rfl ?_
            refine to_c (pc := 81) rw_103_81 (x := (4 : Int32)) rfl rfl ?_
            refine s_v (pc := 82) rw_103_82 (dp0 hd (by decide)) (ls0 := [.ref 1, .int (4 : Int32)]) rfl (Nat.le_of_ble_eq_true rfl) (Nat.le_of_ble_eq_true rfl) rfl (to_rc rfl rfl rfl (g_o hG204 rfl)) rfl ?_
            refine to_an (pc := 0) rw_84_0 rfl ?_
            refine to_in (pc := 1) rw_84_1 rfl ?_
            refine s_pI (pc := 2) rw_84_2 hG204 rfl (fun M235 W234 => ?_)
            have hG236 := g_wf hG204 W234 rfl rfl (by decide)
            have F237 := FR.w F209 W234 (show 1 = 1 ∧ 6 ≤ 10 ∧ 10 ≤ 11 ∨ 1 = 33 by decide)
            refine to_an (pc := 5) rw_84_5 rfl ?_
            refine to_an (pc := 6) rw_84_6 rfl ?_
            have c_238 : M235.2.1 1 9 = (M.2.1 1 9) := (W_n W234 (by decide) (F_n F203 (show ¬ (1 < 0) by decide) (F_n F64 (show ¬ (1 < 0) by decide) rfl)))
            refine tt_gI (pc := 7) rw_84_7 (g_o hG236 rfl) (v := (M.2.1 1 9)) c_238 ?_
            refine s_pI (pc := 10) rw_84_10 hG236 rfl (fun M240 W239 => ?_)
            have hG241 := g_wf hG236 W239 rfl rfl (by decide)
            have F242 := FR.w F237 W239 (show 1 = 1 ∧ 6 ≤ 11 ∧ 11 ≤ 11 ∨ 1 = 33 by decide)
            refine to_c (pc := 13) rw_84_13 (x := (0 : Int32)) rfl rfl ?_
            refine s_r1 (pc := 14) rw_84_14 (A := 0) rfl (by decide) ?_
            refine s_r1 (pc := 85) rw_103_85 (A := 0) rfl (by decide) ?_
            have k_243 : (0 : Int32).toInt = 0 := rfl
            have c_244 : M240.2.1 1 9 = (M.2.1 1 9) := (W_n W239 (by decide) c_238)
            have t_245 : (M240.2.1 1 9).toInt = (M.2.1 1 9).toInt := congrArg Int32.toInt c_244
            have j_246 := (CS_f (fun a i z => W_n W239 (tg_32 a i z) rfl) (CS_f (fun a i z => W_n W234 (tg_33 a i z) rfl) (CS_f (tg_28 F203) (CS_f (tg_28 F64) q3))))
            have c_247 : M240.2.1 1 10 = (4 : Int32) := (W_n W239 (by decide) (W_e W234))
            have k_248 : (4 : Int32).toInt = 4 := rfl
            have t_249 : (M240.2.1 1 10).toInt = (4 : Int32).toInt := congrArg Int32.toInt c_247
            have c_250 : M240.2.1 1 11 = (M.2.1 1 9) := (W_e W239)
            have t_251 : (M240.2.1 1 11).toInt = (M.2.1 1 9).toInt := congrArg Int32.toInt c_250
            exact h (0 : Int32) M240 hG241 F242 (by decide) (by decide) j_246 (by omega) (fun z => absurd z (by decide)) (fun _ k9 => winl (by omega) (by omega) (p_ndx (by omega) (by omega) (by omega)))
          · refine to_c (pc := 12) rw_43_12 (x := (1 : Int32)) rfl rfl ?_
            refine to_go (pc := 13) rw_43_13 ?_
            refine s_r1 (pc := 17) rw_43_17 (A := 1) rfl (by decide) ?_
            refine b_ine_t (pc := 77) rw_103_77 (A := 1) rfl (by decide) ?_
            refine to_an (pc := 86) rw_103_86 rfl ?_
            refine s_gR (pc := 87) rw_103_87 hG204 (by rcases hp with rfl | rfl <;> rfl) (v := (p + 3)) (by rcases hp with rfl | rfl <;> rfl) ?_
            refine to_i (pc := 90) rw_103_90 rfl ?_
            refine s_ial (pc := 92) rw_103_92 hG204 (by rcases hp with rfl | rfl <;> rfl) (n := 8) (by rcases hp with rfl | rfl <;> rfl) (by rcases hp with rfl | rfl <;> rfl) (A := r202.toInt) rfl (by omega) (by omega) (lo := 0) (hi := 59) (by rcases hp with rfl | rfl <;> rfl) (by rcases hp with rfl | rfl <;> rfl) (fun v252 w_253 _ _ => ?_)
            have j_254 := (PLs_f (fun a i z => F_n F203 (show ¬ (a < 0) by omega) rfl) j_201)
            have z_255 := PLs_r j_254 3 (by decide) (by decide) (k := r202.toInt) (by omega) (by omega) w_253
            have z_256 := x_row_v (s := sg) (r := 3) (x := r202.toInt) (y := x_fn sg 1 (x_val t nn a)) (by omega)
            have z_257 := j_254.1.2.2.2.2.2.2.2 (x_fn sg 1 (x_val t nn a)) (by omega) (by omega)
            refine to_is (pc := 93) rw_103_93 (ls2 := [.ref 28, .ref 1, .ref p, .ref 11, .int s, .int v252, .int v16, .int r63, .int r202]) rfl rfl ?_
            refine to_an (pc := 95) rw_103_95 rfl ?_
            refine to_i (pc := 96) rw_103_96 rfl ?_
            refine s_v (pc := 98) rw_103_98 (dp0 hd (by decide)) (ls0 := [.ref p, .int r202]) rfl (Nat.le_of_ble_eq_true rfl) (Nat.le_of_ble_eq_true rfl) rfl (to_rc rfl rfl rfl (g_o hG204 (by rcases hp with rfl | rfl <;> rfl))) rfl ?_
            refine to_an (pc := 0) rw_47_0 rfl ?_
            refine s_gR (pc := 1) rw_47_1 hG204 (by rcases hp with rfl | rfl <;> rfl) (v := (p + 4)) (by rcases hp with rfl | rfl <;> rfl) ?_
            refine to_in (pc := 4) rw_47_4 rfl ?_
            refine s_ial (pc := 5) rw_47_5 hG204 (by rcases hp with rfl | rfl <;> rfl) (n := 8) (by rcases hp with rfl | rfl <;> rfl) (by rcases hp with rfl | rfl <;> rfl) (A := r202.toInt) rfl (by omega) (by omega) (lo := 0) (hi := 63) (by rcases hp with rfl | rfl <;> rfl) (by rcases hp with rfl | rfl <;> rfl) (fun v258 w_259 _ _ => ?_)
            have z_260 := PLs_r j_254 4 (by decide) (by decide) (k := r202.toInt) (by omega) (by omega) w_259
            have z_261 := x_row_v (s := sg) (r := 4) (x := r202.toInt) (y := x_fn sg 1 (x_val t nn a)) (by omega)
            refine to_an (pc := 6) rw_47_6 rfl ?_
            refine s_gR (pc := 7) rw_47_7 hG204 (by rcases hp with rfl | rfl <;> rfl) (v := (p + 3)) (by rcases hp with rfl | rfl <;> rfl) ?_
            refine to_in (pc := 10) rw_47_10 rfl ?_
            refine s_ialk (pc := 11) rw_47_11 hG204 (by rcases hp with rfl | rfl <;> rfl) (n := 8) (by rcases hp with rfl | rfl <;> rfl) (by rcases hp with rfl | rfl <;> rfl) (A := r202.toInt) rfl (by omega) (by omega) (v := v252) w_253 ?_
            refine s_sub (pc := 12) rw_47_12 (A := v258.toInt) (B := v252.toInt) rfl rfl (by omega) (fun v264 e265 => ?_)
            refine to_c (pc := 13) rw_47_13 (x := (1 : Int32)) rfl rfl ?_
            refine s_add (pc := 14) rw_47_14 (A := v264.toInt) (B := 1) rfl rfl (by omega) (fun v266 e267 => ?_)
            refine to_r0 (pc := 15) rw_47_15 ?_
            refine to_c (pc := 101) rw_103_101 (x := (1 : Int32)) rfl rfl ?_
            refine s_sub (pc := 102) rw_103_102 (A := v266.toInt) (B := 1) rfl rfl (by omega) (fun v268 e269 => ?_)
            refine to_is (pc := 103) rw_103_103 (ls2 := [.ref 28, .ref 1, .ref p, .ref 11, .int s, .int v252, .int v268, .int r63, .int r202]) rfl rfl ?_
            refine to_an (pc := 105) rw_103_105 rfl ?_
            refine s_v (pc := 106) rw_103_106 (dp0 hd (by decide)) (ls0 := [.ref 1]) rfl (Nat.le_of_ble_eq_true rfl) (Nat.le_of_ble_eq_true rfl) rfl (to_rc rfl rfl rfl (g_o hG204 rfl)) rfl ?_
            have j_270 := (CS_f (tg_28 F203) (CS_f (tg_28 F64) q3))
            have c_271 : M208.2.1 1 9 = (M.2.1 1 9) := (F_n F203 (show ¬ (1 < 0) by decide) (F_n F64 (show ¬ (1 < 0) by decide) rfl))
            have t_272 : (M208.2.1 1 9).toInt = (M.2.1 1 9).toInt := congrArg Int32.toInt c_271
            refine E_83 hX (dp1 hd (by decide)) hG204 j_270 (by omega) (t := t) (nn := nn) (a := a) (fun M277 hG274 F273 p_275 p_276 => ?_)
            have F278 := FR.c F209 F273 tg_117
            refine to_an (pc := 109) rw_103_109 rfl ?_
            refine to_c (pc := 110) rw_103_110 (x := (0 : Int32)) rfl rfl ?_
            refine to_i (pc := 111) rw_103_111 rfl ?_
            refine s_v (pc := 113) rw_103_113 (dp0 hd (by decide)) (ls0 := [.ref 1, .int (0 : Int32), .int v268]) rfl (Nat.le_of_ble_eq_true rfl) (Nat.le_of_ble_eq_true rfl) rfl (to_rc rfl rfl rfl (g_o hG274 rfl)) rfl ?_
            have k_279 : (0 : Int32).toInt = 0 := rfl
            refine E_88f hX (dp1 hd (by decide)) hG274 p_275 (by omega) (l := (0 : Int32)) (m := v268) (t := t) (nn := nn) (a := (x_ns t nn a)) (fun r280 M290 hG282 F281 p_283 p_284 p_285 p_286 p_287 p_288 p_289 => ?_)
            have F291 := FR.c F278 F281 tg_116
            rcases (show r280.toInt = 0 ∨ r280.toInt = 1 by omega) with h292 | h292
            · skip
              have p_293 := p_286 (by omega)
              have p_294 := p_287 (by omega)
              clear p_285 p_286 p_287
              have z_295 := x_val_b (t := t) (nn := nn) (a := (x_ns t nn a))
              refine b_ine_f (pc := 116) rw_103_116 (A := r280.toInt) rfl (by omega) ?_
              refine to_c (pc := 119) rw_103_119 (x := (0 : Int32)) rfl rfl ?_
              refine s_r1 (pc := 120) rw_103_120 (A := 0) rfl (by decide) ?_
              have c_296 : M290.2.1 1 9 = (M277.2.1 1 9) := (F_n F281 (show ¬ (1 = 1 ∧ (9 = 10 ∨ 9 = 11)) by decide) rfl)
              have t_297 : (M290.2.1 1 9).toInt = (M277.2.1 1 9).toInt := congrArg Int32.toInt c_296
              have j_298 := (CS_f (tg_34 F281) p_275)
              exact h (0 : Int32) M290 hG282 F291 (by decide) (by decide) j_298 (by omega) (fun z => absurd z (by decide)) (fun _ k9 => if g9 : x_kind t nn (x_ns t nn a) = 3 then winl (by omega) (by omega) ((p_ndf (by omega) (by omega) (by omega)).trans (p_nb2 g9 (by omega))) else winl (by omega) (by omega) ((p_ndf (by omega) (by omega) (by omega)).trans (p_nb1 g9)))
            · skip
              have p_299 := p_285 (by omega)
              clear p_285 p_286 p_287
              have c_300 : M290.2.1 1 8 = (M277.2.1 1 8) := (F_n F281 (show ¬ (1 = 1 ∧ (8 = 10 ∨ 8 = 11)) by decide) rfl)
              have z_301 := x_val_b (t := t) (nn := nn) (a := (x_ns t nn a)) (by omega)
              refine b_ine_t (pc := 116) rw_103_116 (A := r280.toInt) rfl (by omega) ?_
              refine to_an (pc := 121) rw_103_121 rfl ?_
              refine s_gR (pc := 122) rw_103_122 hG282 rfl (v := 33) rfl ?_
              refine to_i (pc := 125) rw_103_125 rfl ?_
              refine to_dup2 (pc := 127) rw_103_127 ?_
              refine s_lalE (pc := 128) rw_103_128 hG282 rfl (n := 40) rfl (A := s.toInt) rfl (by omega) (by omega) (fun l302 w_303 => ?_)
              refine to_cl (pc := 129) rw_103_129 rfl (x := (1 : Int64)) rfl ?_
              refine to_i (pc := 130) rw_103_130 rfl ?_
              refine to_an (pc := 132) rw_103_132 rfl ?_
              refine tt_gI (pc := 133) rw_103_133 (g_o hG282 rfl) (v := (M277.2.1 1 8)) c_300 ?_
              refine s_add (pc := 136) rw_103_136 (A := v252.toInt) (B := (M277.2.1 1 8).toInt) rfl rfl (by omega) (fun v304 e305 => ?_)
              refine to_2s (pc := 137) rw_103_137 (v := ((1 : Int64) <<< (v304.toInt64 &&& 63))) rfl ?_
              refine to_2l (pc := 138) rw_103_138 (v := (l302 ||| ((1 : Int64) <<< (v304.toInt64 &&& 63)))) rfl ?_
              refine s_las (pc := 139) rw_103_139 hG282 rfl (n := 40) rfl (A := s.toInt) rfl (by omega) (by omega) (fun M307 W306 => ?_)
              have hG308 := g_wl hG282 W306
              have F309 := FR.wl F291 W306 (show 33 = 1 ∧ 6 ≤ (s.toInt).toNat ∧ (s.toInt).toNat ≤ 11 ∨ 33 = 33 by omega)
              refine to_an (pc := 140) rw_103_140 rfl ?_
              refine s_v (pc := 141) rw_103_141 (dp0 hd (by decide)) (ls0 := [.ref 1]) rfl (Nat.le_of_ble_eq_true rfl) (Nat.le_of_ble_eq_true rfl) rfl (to_rc rfl rfl rfl (g_o hG308 rfl)) rfl ?_
              have j_310 := (CS_f (fun a i z => W_l W306 rfl) (CS_f (tg_34 F281) p_275))
              have c_311 : M307.2.1 1 9 = (M277.2.1 1 9) := (W_l W306 (F_n F281 (show ¬ (1 = 1 ∧ (9 = 10 ∨ 9 = 11)) by decide) rfl))
              have t_312 : (M307.2.1 1 9).toInt = (M277.2.1 1 9).toInt := congrArg Int32.toInt c_311
              refine E_83 hX (dp1 hd (by decide)) hG308 j_310 (by omega) (t := t) (nn := nn) (a := (x_ns t nn a)) (fun M317 hG314 F313 p_315 p_316 => ?_)
              have F318 := FR.c F309 F313 tg_117
              refine to_c (pc := 144) rw_103_144 (x := (1 : Int32)) rfl rfl ?_
              refine s_r1 (pc := 145) rw_103_145 (A := 1) rfl (by decide) ?_
              have k_319 : (1 : Int32).toInt = 1 := rfl
              have z_320 := x_ns_lt (t := t) (nn := nn) (a := a) (by omega) (x_lt_k (by omega) (by omega))
              have z_321 := x_ns_b (t := t) (n := nn) (a := (x_ns t nn a)) (by omega) (by omega)
              exact h (1 : Int32) M317 hG314 F318 (by decide) (by decide) p_315 (by omega) (fun _ k9 => by rw [show (M317.2.1 1 9).toInt = (x_ns t nn (x_ns t nn a)) by omega]; exact (p_ndf (by omega) (by omega) (by omega)).trans (p_nb (by omega) (by omega))) (fun z => absurd z (by decide))
      · refine to_c (pc := 12) rw_44_12 (x := (1 : Int32)) rfl rfl ?_
        refine to_go (pc := 13) rw_44_13 ?_
        refine s_r1 (pc := 17) rw_44_17 (A := 1) rfl (by decide) ?_
        refine b_ieq_f (pc := 35) rw_103_35 (A := 1) rfl (by decide) ?_
        refine to_an (pc := 38) rw_103_38 rfl ?_
        refine s_gR (pc := 39) rw_103_39 hG65 rfl (v := 33) rfl ?_
        refine to_i (pc := 42) rw_103_42 rfl ?_
        refine to_dup2 (pc := 44) rw_103_44 ?_
        refine s_lalE (pc := 45) rw_103_45 hG65 rfl (n := 40) rfl (A := s.toInt) rfl (by omega) (by omega) (fun l322 w_323 => ?_)
        refine to_an (pc := 46) rw_103_46 rfl ?_
        refine s_gR (pc := 47) rw_103_47 hG65 rfl (v := 15) rfl ?_
        refine to_i (pc := 50) rw_103_50 rfl ?_
        refine s_lalE (pc := 52) rw_103_52 hG65 rfl (n := 12) rfl (A := r63.toInt) rfl (by omega) (by omega) (fun l324 w_325 => ?_)
        refine to_2l (pc := 53) rw_103_53 (v := (l322 ||| l324)) rfl ?_
        refine s_las (pc := 54) rw_103_54 hG65 rfl (n := 40) rfl (A := s.toInt) rfl (by omega) (by omega) (fun M327 W326 => ?_)
        have hG328 := g_wl hG65 W326
        have F329 := FR.wl F70 W326 (show 33 = 1 ∧ 6 ≤ (s.toInt).toNat ∧ (s.toInt).toNat ≤ 11 ∨ 33 = 33 by omega)
        refine to_an (pc := 55) rw_103_55 rfl ?_
        refine s_v (pc := 56) rw_103_56 (dp0 hd (by decide)) (ls0 := [.ref 1]) rfl (Nat.le_of_ble_eq_true rfl) (Nat.le_of_ble_eq_true rfl) rfl (to_rc rfl rfl rfl (g_o hG328 rfl)) rfl ?_
        have j_330 := (CS_f (fun a i z => W_l W326 rfl) (CS_f (tg_28 F64) q3))
        have c_331 : M327.2.1 1 9 = (M.2.1 1 9) := (W_l W326 (F_n F64 (show ¬ (1 < 0) by decide) rfl))
        have t_332 : (M327.2.1 1 9).toInt = (M.2.1 1 9).toInt := congrArg Int32.toInt c_331
        refine E_83 hX (dp1 hd (by decide)) hG328 j_330 (by omega) (t := t) (nn := nn) (a := a) (fun M337 hG334 F333 p_335 p_336 => ?_)
        have F338 := FR.c F329 F333 tg_117
        refine to_c (pc := 59) rw_103_59 (x := (1 : Int32)) rfl rfl ?_
        refine s_r1 (pc := 60) rw_103_60 (A := 1) rfl (by decide) ?_
        have k_339 : (1 : Int32).toInt = 1 := rfl
        have z_340 := x_ns_lt (t := t) (nn := nn) (a := a) (by omega) (x_lt_k (by omega) (by omega))
        exact h (1 : Int32) M337 hG334 F338 (by decide) (by decide) p_335 (by omega) (fun _ k9 => by rw [show (M337.2.1 1 9).toInt = (x_ns t nn a) by omega]; exact p_ndw (by omega) (by omega)) (fun z => absurd z (by decide))
