theorem tg_134 : ∀ a i : Nat, (a = 1 ∧ (i = 10 ∨ i = 11)) → (a = 1 ∧ 6 ≤ i ∧ i ≤ 11 ∨ a = 33) := fun a i z => by omega
theorem tg_135 : ∀ a i : Nat, (a = 1 ∧ 6 ≤ i ∧ i ≤ 9) → (a = 1 ∧ 6 ≤ i ∧ i ≤ 11 ∨ a = 33) := fun a i z => by omega
theorem tg_136 : ∀ a i : Nat, (a < 0) → (a = 1 ∧ 6 ≤ i ∧ i ≤ 11 ∨ a = 33) := fun a i z => by omega
set_option maxRecDepth 4000 in
set_option maxHeartbeats 0 in
theorem E_103 {X : mm_X} {d : Nat} {M : mm_M} {Q : Option Value → mm_M → Prop} {p : Nat} {s : Int32} {t : Nat → Int} {nn : Int} {a : Int} {sg : x_S} (hX : g_X X) (hd : 2 ≤ d) (hG : g_G M) (hp : p = 49 ∨ p = 58) (q1 : 0 ≤ s.toInt) (q2 : s.toInt ≤ 39) (q3 : CS M t nn) (q4 : (M.2.1 1 9).toInt = a) (q5 : PLs M p sg) (h : ∀ (r : Int32) (M1 : mm_M), g_G M1 → FR md_w103 M M1 → (0 ≤ r.toInt) → (r.toInt ≤ 1) → CS M1 t nn → (r.toInt = 1 → a < (M1.2.1 1 9).toInt) → ((r.toInt = 1 → ∀ k : Int → x_WR, x_wnd t nn sg a k = k (M1.2.1 1 9).toInt)) → ((r.toInt = 0 → ∀ k : Int → x_WR, x_wnd t nn sg a k = Sum.inl ((M1.2.1 1 10).toInt, (M1.2.1 1 11).toInt))) → (r.toInt = 1 → (M1.2.1 1 10).toInt = (M.2.1 1 10).toInt ∧ (M1.2.1 1 11).toInt = (M.2.1 1 11).toInt) → Q (some (.int r)) M1) : mm_T X d 103 0 [.ref 28, .ref 1, .ref p, .ref 11, .int s, .null, .null, .null, .null] [] M Q := by
  have F0 : FR md_w103 M M := FR.rf
  have c_1 := CS_u q3 (a := a) (by omega)
  unfold x_C at c_1
  have z_2 := c_1.2
  have z_3 := q5.2.1
  have z_4 := q5.2.2.1
  have z_5 := q5.2.2.2.1
  have z_6 := q5.1
  have z_7 := z_6.1
  have z_8 := z_6.2.1
  have z_9 := z_6.2.2.1
  have z_10 := z_6.2.2.2.1
  have z_11 := z_6.2.2.2.2.1
  have z_12 := z_6.2.2.2.2.2.1
  have b_13 := g_b hG (a := p) (i := 0) (lo := 10) (hi := 60) (by rcases hp with rfl | rfl <;> rfl) (by rcases hp with rfl | rfl <;> rfl)
  have b_14 := g_b hG (a := p) (i := 2) (lo := 0) (hi := 8) (by rcases hp with rfl | rfl <;> rfl) (by rcases hp with rfl | rfl <;> rfl)
  have b_15 := g_b hG (a := p) (i := 3) (lo := 0) (hi := 12) (by rcases hp with rfl | rfl <;> rfl) (by rcases hp with rfl | rfl <;> rfl)
  refine to_c (pc := 0) rw_103_0 (x := (0 : Int32)) rfl rfl ?_
  refine to_is (pc := 1) rw_103_1 (ls2 := [.ref 28, .ref 1, .ref p, .ref 11, .int s, .int (0 : Int32), .null, .null, .null]) rfl rfl ?_
  refine to_an (pc := 3) rw_103_3 rfl ?_
  refine tt_gI (pc := 4) rw_103_4 (g_o hG (by rcases hp with rfl | rfl <;> rfl)) (v := (M.2.1 p 0)) rfl ?_
  refine to_c (pc := 7) rw_103_7 (x := (1 : Int32)) rfl rfl ?_
  refine s_sub (pc := 8) rw_103_8 (A := (M.2.1 p 0).toInt) (B := 1) rfl rfl (by omega) (fun v16 e17 => ?_)
  refine to_is (pc := 9) rw_103_9 (ls2 := [.ref 28, .ref 1, .ref p, .ref 11, .int s, .int (0 : Int32), .int v16, .null, .null]) rfl rfl ?_
  refine to_an (pc := 11) rw_103_11 rfl ?_
  refine tt_gI (pc := 12) rw_103_12 (g_o hG rfl) (v := (M.2.1 1 7)) rfl ?_
  refine to_c (pc := 15) rw_103_15 (x := (3 : Int32)) rfl rfl ?_
  refine b_cne (pc := 16) rw_103_16 (A := (M.2.1 1 7).toInt) (B := 3) rfl rfl (fun h18 => ?_) (fun h18 => ?_)
  · have z_19 : ¬ x_kind t nn a = 2 := by omega
    clear c_1
    refine to_an (pc := 109) rw_103_109 rfl ?_
    refine to_c (pc := 110) rw_103_110 (x := (0 : Int32)) rfl rfl ?_
    refine to_i (pc := 111) rw_103_111 rfl ?_
    refine s_v (pc := 113) rw_103_113 (dp0 hd (by decide)) (ls0 := [.ref 1, .int (0 : Int32), .int v16]) rfl (Nat.le_of_ble_eq_true rfl) (Nat.le_of_ble_eq_true rfl) rfl (to_rc rfl rfl rfl (g_o hG rfl)) rfl ?_
    have k_20 : (0 : Int32).toInt = 0 := rfl
    refine E_88f hX (dp1 hd (by decide)) hG q3 (by omega) (l := (0 : Int32)) (m := v16) (t := t) (nn := nn) (a := a) (fun r21 M32 hG23 F22 p_24 p_25 p_26 p_27 p_28 p_29 p_30 p_31 => ?_)
    have F33 := FR.c F0 F22 tg_134
    rcases (show r21.toInt = 0 ∨ r21.toInt = 1 by omega) with h34 | h34
    · skip
      have p_35 := p_27 (by omega)
      have p_36 := p_28 (by omega)
      clear p_26 p_27 p_28 p_31
      have z_37 := x_val_b (t := t) (nn := nn) (a := a)
      refine b_ine_f (pc := 116) rw_103_116 (A := r21.toInt) rfl (by omega) ?_
      refine to_c (pc := 119) rw_103_119 (x := (0 : Int32)) rfl rfl ?_
      refine s_r1 (pc := 120) rw_103_120 (A := 0) rfl (by decide) ?_
      have c_38 : M32.2.1 1 9 = (M.2.1 1 9) := (F_n F22 (show ¬ (1 = 1 ∧ (9 = 10 ∨ 9 = 11)) by decide) rfl)
      have t_39 : (M32.2.1 1 9).toInt = (M.2.1 1 9).toInt := congrArg Int32.toInt c_38
      have j_40 := (CS_f (tg_34 F22) q3)
      exact h (0 : Int32) M32 hG23 F33 (by decide) (by decide) j_40 (by omega) (fun z => absurd z (by decide)) (fun _ k9 => if g9 : x_kind t nn a = 3 then winl (by omega) (by omega) ((p_ndn (by omega)).trans (p_nb2 g9 (by omega))) else winl (by omega) (by omega) ((p_ndn (by omega)).trans (p_nb1 g9))) (by omega)
    · skip
      have p_41 := p_26 (by omega)
      have p_42 := p_31 (by omega)
      clear p_26 p_27 p_28 p_31
      have c_43 : M32.2.1 1 8 = (M.2.1 1 8) := (F_n F22 (show ¬ (1 = 1 ∧ (8 = 10 ∨ 8 = 11)) by decide) rfl)
      have z_44 := x_val_b (t := t) (nn := nn) (a := a) (by omega)
      refine b_ine_t (pc := 116) rw_103_116 (A := r21.toInt) rfl (by omega) ?_
      refine to_an (pc := 121) rw_103_121 rfl ?_
      refine s_gR (pc := 122) rw_103_122 hG23 rfl (v := 33) rfl ?_
      refine to_i (pc := 125) rw_103_125 rfl ?_
      refine to_dup2 (pc := 127) rw_103_127 ?_
      refine s_lalE (pc := 128) rw_103_128 hG23 rfl (n := 40) rfl (A := s.toInt) rfl (by omega) (by omega) (fun l45 w_46 => ?_)
      refine to_cl (pc := 129) rw_103_129 rfl (x := (1 : Int64)) rfl ?_
      refine to_i (pc := 130) rw_103_130 rfl ?_
      refine to_an (pc := 132) rw_103_132 rfl ?_
      refine tt_gI (pc := 133) rw_103_133 (g_o hG23 rfl) (v := (M.2.1 1 8)) c_43 ?_
      refine s_add (pc := 136) rw_103_136 (A := 0) (B := (M.2.1 1 8).toInt) rfl rfl (by omega) (fun v47 e48 => ?_)
      refine to_2s (pc := 137) rw_103_137 (v := ((1 : Int64) <<< (v47.toInt64 &&& 63))) rfl ?_
      refine to_2l (pc := 138) rw_103_138 (v := (l45 ||| ((1 : Int64) <<< (v47.toInt64 &&& 63)))) rfl ?_
      refine s_las (pc := 139) rw_103_139 hG23 rfl (n := 40) rfl (A := s.toInt) rfl (by omega) (by omega) (fun M50 W49 => ?_)
      have hG51 := g_wl hG23 W49
      have F52 := FR.wl F33 W49 (show 33 = 1 ∧ 6 ≤ (s.toInt).toNat ∧ (s.toInt).toNat ≤ 11 ∨ 33 = 33 by omega)
      refine to_an (pc := 140) rw_103_140 rfl ?_
      refine s_v (pc := 141) rw_103_141 (dp0 hd (by decide)) (ls0 := [.ref 1]) rfl (Nat.le_of_ble_eq_true rfl) (Nat.le_of_ble_eq_true rfl) rfl (to_rc rfl rfl rfl (g_o hG51 rfl)) rfl ?_
      have j_53 := (CS_f (fun a i z => W_l W49 rfl) (CS_f (tg_34 F22) q3))
      have c_54 : M50.2.1 1 9 = (M.2.1 1 9) := (W_l W49 (F_n F22 (show ¬ (1 = 1 ∧ (9 = 10 ∨ 9 = 11)) by decide) rfl))
      have t_55 : (M50.2.1 1 9).toInt = (M.2.1 1 9).toInt := congrArg Int32.toInt c_54
      refine E_83 hX (dp1 hd (by decide)) hG51 j_53 (by omega) (t := t) (nn := nn) (a := a) (fun M60 hG57 F56 p_58 p_59 => ?_)
      have F61 := FR.c F52 F56 tg_135
      refine to_c (pc := 144) rw_103_144 (x := (1 : Int32)) rfl rfl ?_
      refine s_r1 (pc := 145) rw_103_145 (A := 1) rfl (by decide) ?_
      have k_62 : (1 : Int32).toInt = 1 := rfl
      have z_63 := x_ns_lt (t := t) (nn := nn) (a := a) (by omega) (x_lt_k (t := t) (by omega) (by omega))
      have c_64 : M60.2.1 1 10 = (M32.2.1 1 10) := (F_n F56 (show ¬ (1 = 1 ∧ 6 ≤ 10 ∧ 10 ≤ 9) by decide) (W_l W49 rfl))
      have t_65 : (M60.2.1 1 10).toInt = (M32.2.1 1 10).toInt := congrArg Int32.toInt c_64
      have c_66 : M60.2.1 1 11 = (M32.2.1 1 11) := (F_n F56 (show ¬ (1 = 1 ∧ 6 ≤ 11 ∧ 11 ≤ 9) by decide) (W_l W49 rfl))
      have t_67 : (M60.2.1 1 11).toInt = (M32.2.1 1 11).toInt := congrArg Int32.toInt c_66
      exact h (1 : Int32) M60 hG57 F61 (by decide) (by decide) p_58 (by omega) (fun _ k9 => by rw [show (M60.2.1 1 9).toInt = (x_ns t nn a) by omega]; exact (p_ndn (by omega)).trans (p_nb (by omega) (by omega))) (fun z => absurd z (by decide)) (by omega)
  · have z_68 : x_kind t nn a = 2 ∧ x_val t nn a = (M.2.1 1 8).toInt := by omega
    clear c_1
    refine to_an (pc := 19) rw_103_19 rfl ?_
    refine to_an (pc := 20) rw_103_20 rfl ?_
    refine tt_gI (pc := 21) rw_103_21 (g_o hG rfl) (v := (M.2.1 1 8)) rfl ?_
    refine s_v (pc := 24) rw_103_24 (dp0 hd (by decide)) (ls0 := [.ref p, .int (M.2.1 1 8)]) rfl (Nat.le_of_ble_eq_true rfl) (Nat.le_of_ble_eq_true rfl) rfl (to_rc rfl rfl rfl (g_o hG (by rcases hp with rfl | rfl <;> rfl))) rfl ?_
    refine to_an (pc := 0) rw_53_0 rfl ?_
    refine s_gR (pc := 1) rw_53_1 hG (by rcases hp with rfl | rfl <;> rfl) (v := (p + 6)) (by rcases hp with rfl | rfl <;> rfl) ?_
    refine to_an (pc := 4) rw_53_4 rfl ?_
    refine tt_gI (pc := 5) rw_53_5 (g_o hG (by rcases hp with rfl | rfl <;> rfl)) (v := (M.2.1 p 3)) rfl ?_
    refine to_in (pc := 8) rw_53_8 rfl ?_
    refine s_s (pc := 9) rw_53_9 (dp1 hd (by decide)) (ls0 := [.ref (p + 6), .int (M.2.1 p 3), .int (M.2.1 1 8), .null]) rfl (Nat.le_of_ble_eq_true rfl) (Nat.le_of_ble_eq_true rfl) rfl (to_rcs rfl rfl) rfl ?_
    refine E_54g hX (dp2 hd (by decide)) hG (by omega) (by omega) (by omega) (g := (p + 6)) (s := (M.2.1 p 3)) (x := (M.2.1 1 8)) (fun r69 M75 hG71 F70 p_72 p_73 p_74 => ?_)
    have F76 := FR.c F0 F70 tg_136
    have z_77 := PLs_w (v := (M.2.1 1 8).toInt) q5 (n := (M.2.1 p 3).toInt) (by omega)
    have z_78 := x_fn_v (s := sg) (r := 6) (v := (M.2.1 1 8).toInt) (w := x_val t nn a) (by omega)
    have z_79 := x_fn_b6 (s := sg) (v := x_val t nn a) q5.1
    refine to_r0 (pc := 12) rw_53_12 ?_
    refine to_is (pc := 27) rw_103_27 (ls2 := [.ref 28, .ref 1, .ref p, .ref 11, .int s, .int (0 : Int32), .int v16, .int r69, .null]) rfl rfl ?_
    refine to_an (pc := 29) rw_103_29 rfl ?_
    refine to_i (pc := 30) rw_103_30 rfl ?_
    refine s_v (pc := 32) rw_103_32 (dp0 hd (by decide)) (ls0 := [.ref p, .int r69]) rfl (Nat.le_of_ble_eq_true rfl) (Nat.le_of_ble_eq_true rfl) rfl (to_rc rfl rfl rfl (g_o hG71 (by rcases hp with rfl | rfl <;> rfl))) rfl ?_
    refine to_in (pc := 0) rw_44_0 rfl ?_
    refine b_ilt (pc := 1) rw_44_1 (A := r69.toInt) rfl (fun h80 => ?_) (fun h80 => ?_)
    · refine to_c (pc := 16) rw_44_16 (x := (0 : Int32)) rfl rfl ?_
      refine s_r1 (pc := 17) rw_44_17 (A := 0) rfl (by decide) ?_
      refine b_ieq_t (pc := 35) rw_103_35 (A := 0) rfl (by decide) ?_
      refine to_an (pc := 61) rw_103_61 rfl ?_
      refine to_an (pc := 62) rw_103_62 rfl ?_
      have c_81 : M75.2.1 1 8 = (M.2.1 1 8) := (F_n F70 (show ¬ (1 < 0) by decide) rfl)
      refine tt_gI (pc := 63) rw_103_63 (g_o hG71 rfl) (v := (M.2.1 1 8)) c_81 ?_
      refine s_v (pc := 66) rw_103_66 (dp0 hd (by decide)) (ls0 := [.ref p, .int (M.2.1 1 8)]) rfl (Nat.le_of_ble_eq_true rfl) (Nat.le_of_ble_eq_true rfl) rfl (to_rc rfl rfl rfl (g_o hG71 (by rcases hp with rfl | rfl <;> rfl))) rfl ?_
      refine to_an (pc := 0) rw_52_0 rfl ?_
      refine s_gR (pc := 1) rw_52_1 hG71 (by rcases hp with rfl | rfl <;> rfl) (v := (p + 1)) (by rcases hp with rfl | rfl <;> rfl) ?_
      refine to_an (pc := 4) rw_52_4 rfl ?_
      have c_82 : M75.2.1 p 2 = (M.2.1 p 2) := (F_n F70 (show ¬ (p < 0) by omega) rfl)
      refine tt_gI (pc := 5) rw_52_5 (g_o hG71 (by rcases hp with rfl | rfl <;> rfl)) (v := (M.2.1 p 2)) c_82 ?_
      refine to_in (pc := 8) rw_52_8 rfl ?_
      refine s_s (pc := 9) rw_52_9 (dp1 hd (by decide)) (ls0 := [.ref (p + 1), .int (M.2.1 p 2), .int (M.2.1 1 8), .null]) rfl (Nat.le_of_ble_eq_true rfl) (Nat.le_of_ble_eq_true rfl) rfl (to_rcs rfl rfl) rfl ?_
      have j_83 := (PLs_f (fun a i z => F_n F70 (show ¬ (a < 0) by omega) rfl) q5)
      refine E_54f hX (dp2 hd (by decide)) hG71 (by omega) (by omega) (by omega) (f := (p + 1)) (s := (M.2.1 p 2)) (x := (M.2.1 1 8)) (fun r84 M90 hG86 F85 p_87 p_88 p_89 => ?_)
      have F91 := FR.c F76 F85 tg_136
      have z_92 := PLs_n (v := (M.2.1 1 8).toInt) j_83 (n := (M.2.1 p 2).toInt) (by omega)
      have z_93 := x_fn_v (s := sg) (r := 1) (v := (M.2.1 1 8).toInt) (w := x_val t nn a) (by omega)
      have z_94 := x_fn_b (s := sg) (v := x_val t nn a) j_83.1
      refine to_r0 (pc := 12) rw_52_12 ?_
      refine to_is (pc := 69) rw_103_69 (ls2 := [.ref 28, .ref 1, .ref p, .ref 11, .int s, .int (0 : Int32), .int v16, .int r69, .int r84]) rfl rfl ?_
      refine to_an (pc := 71) rw_103_71 rfl ?_
      refine to_i (pc := 72) rw_103_72 rfl ?_
      refine s_v (pc := 74) rw_103_74 (dp0 hd (by decide)) (ls0 := [.ref p, .int r84]) rfl (Nat.le_of_ble_eq_true rfl) (Nat.le_of_ble_eq_true rfl) rfl (to_rc rfl rfl rfl (g_o hG86 (by rcases hp with rfl | rfl <;> rfl))) rfl ?_
      refine to_in (pc := 0) rw_43_0 rfl ?_
      refine b_ilt (pc := 1) rw_43_1 (A := r84.toInt) rfl (fun h95 => ?_) (fun h95 => ?_)
      · refine to_c (pc := 16) rw_43_16 (x := (0 : Int32)) rfl rfl ?_
        refine s_r1 (pc := 17) rw_43_17 (A := 0) rfl (by decide) ?_
        refine b_ine_f (pc := 77) rw_103_77 (A := 0) rfl (by decide) ?_
        refine to_an (pc := 80) rw_103_80 rfl ?_
        refine to_c (pc := 81) rw_103_81 (x := (4 : Int32)) rfl rfl ?_
        refine s_v (pc := 82) rw_103_82 (dp0 hd (by decide)) (ls0 := [.ref 1, .int (4 : Int32)]) rfl (Nat.le_of_ble_eq_true rfl) (Nat.le_of_ble_eq_true rfl) rfl (to_rc rfl rfl rfl (g_o hG86 rfl)) rfl ?_
        refine to_an (pc := 0) rw_84_0 rfl ?_
        refine to_in (pc := 1) rw_84_1 rfl ?_
        refine s_pI (pc := 2) rw_84_2 hG86 rfl (fun M97 W96 => ?_)
        have hG98 := g_wf hG86 W96 rfl rfl (by decide)
        have F99 := FR.w F91 W96 (show 1 = 1 ∧ 6 ≤ 10 ∧ 10 ≤ 11 ∨ 1 = 33 by decide)
        refine to_an (pc := 5) rw_84_5 rfl ?_
        refine to_an (pc := 6) rw_84_6 rfl ?_
        have c_100 : M97.2.1 1 9 = (M.2.1 1 9) := (W_n W96 (by decide) (F_n F85 (show ¬ (1 < 0) by decide) (F_n F70 (show ¬ (1 < 0) by decide) rfl)))
        refine tt_gI (pc := 7) rw_84_7 (g_o hG98 rfl) (v := (M.2.1 1 9)) c_100 ?_
        refine s_pI (pc := 10) rw_84_10 hG98 rfl (fun M102 W101 => ?_)
        have hG103 := g_wf hG98 W101 rfl rfl (by decide)
        have F104 := FR.w F99 W101 (show 1 = 1 ∧ 6 ≤ 11 ∧ 11 ≤ 11 ∨ 1 = 33 by decide)
        refine to_c (pc := 13) rw_84_13 (x := (0 : Int32)) rfl rfl ?_
        refine s_r1 (pc := 14) rw_84_14 (A := 0) rfl (by decide) ?_
        refine s_r1 (pc := 85) rw_103_85 (A := 0) rfl (by decide) ?_
        have k_105 : (0 : Int32).toInt = 0 := rfl
        have c_106 : M102.2.1 1 9 = (M.2.1 1 9) := (W_n W101 (by decide) c_100)
        have t_107 : (M102.2.1 1 9).toInt = (M.2.1 1 9).toInt := congrArg Int32.toInt c_106
        have j_108 := (CS_f (fun a i z => W_n W101 (tg_32 a i z) rfl) (CS_f (fun a i z => W_n W96 (tg_33 a i z) rfl) (CS_f (tg_28 F85) (CS_f (tg_28 F70) q3))))
        have c_109 : M102.2.1 1 10 = (4 : Int32) := (W_n W101 (by decide) (W_e W96))
        have k_110 : (4 : Int32).toInt = 4 := rfl
        have t_111 : (M102.2.1 1 10).toInt = (4 : Int32).toInt := congrArg Int32.toInt c_109
        have c_112 : M102.2.1 1 11 = (M.2.1 1 9) := (W_e W101)
        have t_113 : (M102.2.1 1 11).toInt = (M.2.1 1 9).toInt := congrArg Int32.toInt c_112
        exact h (0 : Int32) M102 hG103 F104 (by decide) (by decide) j_108 (by omega) (fun z => absurd z (by decide)) (fun _ k9 => winl (by omega) (by omega) (p_ndx (by omega) (by omega) (by omega))) (by omega)
      · refine to_in (pc := 4) rw_43_4 rfl ?_
        refine to_an (pc := 5) rw_43_5 rfl ?_
        have c_114 : M90.2.1 p 2 = (M.2.1 p 2) := (F_n F85 (show ¬ (p < 0) by omega) c_82)
        refine tt_gI (pc := 6) rw_43_6 (g_o hG86 (by rcases hp with rfl | rfl <;> rfl)) (v := (M.2.1 p 2)) c_114 ?_
        refine b_cge (pc := 9) rw_43_9 (A := r84.toInt) (B := (M.2.1 p 2).toInt) rfl rfl (fun h115 => ?_) (fun h115 => ?_)
        · refine to_c (pc := 16) rw_43_16 (x := (0 : Int32)) rfl rfl ?_
          refine s_r1 (pc := 17) rw_43_17 (A := 0) rfl (by decide) ?_
          refine b_ine_f (pc := 77) rw_103_77 (A := 0) rfl (by decide) ?_
          refine to_an (pc := 80) rw_103_80 rfl ?_
          refine to_c (pc := 81) rw_103_81 (x := (4 : Int32)) rfl rfl ?_
          refine s_v (pc := 82) rw_103_82 (dp0 hd (by decide)) (ls0 := [.ref 1, .int (4 : Int32)]) rfl (Nat.le_of_ble_eq_true rfl) (Nat.le_of_ble_eq_true rfl) rfl (to_rc rfl rfl rfl (g_o hG86 rfl)) rfl ?_
          refine to_an (pc := 0) rw_84_0 rfl ?_
          refine to_in (pc := 1) rw_84_1 rfl ?_
          refine s_pI (pc := 2) rw_84_2 hG86 rfl (fun M117 W116 => ?_)
          have hG118 := g_wf hG86 W116 rfl rfl (by decide)
          have F119 := FR.w F91 W116 (show 1 = 1 ∧ 6 ≤ 10 ∧ 10 ≤ 11 ∨ 1 = 33 by decide)
          refine to_an (pc := 5) rw_84_5 rfl ?_
          refine to_an (pc := 6) rw_84_6 rfl ?_
          have c_120 : M117.2.1 1 9 = (M.2.1 1 9) := (W_n W116 (by decide) (F_n F85 (show ¬ (1 < 0) by decide) (F_n F70 (show ¬ (1 < 0) by decide) rfl)))
          refine tt_gI (pc := 7) rw_84_7 (g_o hG118 rfl) (v := (M.2.1 1 9)) c_120 ?_
          refine s_pI (pc := 10) rw_84_10 hG118 rfl (fun M122 W121 => ?_)
          have hG123 := g_wf hG118 W121 rfl rfl (by decide)
          have F124 := FR.w F119 W121 (show 1 = 1 ∧ 6 ≤ 11 ∧ 11 ≤ 11 ∨ 1 = 33 by decide)
          refine to_c (pc := 13) rw_84_13 (x := (0 : Int32)) rfl rfl ?_
          refine s_r1 (pc := 14) rw_84_14 (A := 0) rfl (by decide) ?_
          refine s_r1 (pc := 85) rw_103_85 (A := 0) rfl (by decide) ?_
          have k_125 : (0 : Int32).toInt = 0 := rfl
          have c_126 : M122.2.1 1 9 = (M.2.1 1 9) := (W_n W121 (by decide) c_120)
          have t_127 : (M122.2.1 1 9).toInt = (M.2.1 1 9).toInt := congrArg Int32.toInt c_126
          have j_128 := (CS_f (fun a i z => W_n W121 (tg_32 a i z) rfl) (CS_f (fun a i z => W_n W116 (tg_33 a i z) rfl) (CS_f (tg_28 F85) (CS_f (tg_28 F70) q3))))
          have c_129 : M122.2.1 1 10 = (4 : Int32) := (W_n W121 (by decide) (W_e W116))
          have k_130 : (4 : Int32).toInt = 4 := rfl
          have t_131 : (M122.2.1 1 10).toInt = (4 : Int32).toInt := congrArg Int32.toInt c_129
          have c_132 : M122.2.1 1 11 = (M.2.1 1 9) := (W_e W121)
          have t_133 : (M122.2.1 1 11).toInt = (M.2.1 1 9).toInt := congrArg Int32.toInt c_132
          exact h (0 : Int32) M122 hG123 F124 (by decide) (by decide) j_128 (by omega) (fun z => absurd z (by decide)) (fun _ k9 => winl (by omega) (by omega) (p_ndx (by omega) (by omega) (by omega))) (by omega)
        · refine to_c (pc := 12) rw_43_12 (x := (1 : Int32)) rfl rfl ?_
          refine to_go (pc := 13) rw_43_13 ?_
          refine s_r1 (pc := 17) rw_43_17 (A := 1) rfl (by decide) ?_
          refine b_ine_t (pc := 77) rw_103_77 (A := 1) rfl (by decide) ?_
          refine to_an (pc := 86) rw_103_86 rfl ?_
          refine s_gR (pc := 87) rw_103_87 hG86 (by rcases hp with rfl | rfl <;> rfl) (v := (p + 3)) (by rcases hp with rfl | rfl <;> rfl) ?_
          refine to_i (pc := 90) rw_103_90 rfl ?_
          refine s_ial (pc := 92) rw_103_92 hG86 (by rcases hp with rfl | rfl <;> rfl) (n := 8) (by rcases hp with rfl | rfl <;> rfl) (by rcases hp with rfl | rfl <;> rfl) (A := r84.toInt) rfl (by omega) (by omega) (lo := 0) (hi := 59) (by rcases hp with rfl | rfl <;> rfl) (by rcases hp with rfl | rfl <;> rfl) (fun v134 w_135 _ _ => ?_)
          have j_136 := (PLs_f (fun a i z => F_n F85 (show ¬ (a < 0) by omega) rfl) j_83)
          have z_137 := PLs_r j_136 3 (by decide) (by decide) (k := r84.toInt) (by omega) (by omega) w_135
          have z_138 := x_row_v (s := sg) (r := 3) (x := r84.toInt) (y := x_fn sg 1 (x_val t nn a)) (by omega)
          have z_139 := j_136.1.2.2.2.2.2.2.2 (x_fn sg 1 (x_val t nn a)) (by omega) (by omega)
          refine to_is (pc := 93) rw_103_93 (ls2 := [.ref 28, .ref 1, .ref p, .ref 11, .int s, .int v134, .int v16, .int r69, .int r84]) rfl rfl ?_
          refine to_an (pc := 95) rw_103_95 rfl ?_
          refine to_i (pc := 96) rw_103_96 rfl ?_
          refine s_v (pc := 98) rw_103_98 (dp0 hd (by decide)) (ls0 := [.ref p, .int r84]) rfl (Nat.le_of_ble_eq_true rfl) (Nat.le_of_ble_eq_true rfl) rfl (to_rc rfl rfl rfl (g_o hG86 (by rcases hp with rfl | rfl <;> rfl))) rfl ?_
          refine to_an (pc := 0) rw_47_0 rfl ?_
          refine s_gR (pc := 1) rw_47_1 hG86 (by rcases hp with rfl | rfl <;> rfl) (v := (p + 4)) (by rcases hp with rfl | rfl <;> rfl) ?_
          refine to_in (pc := 4) rw_47_4 rfl ?_
          refine s_ial (pc := 5) rw_47_5 hG86 (by rcases hp with rfl | rfl <;> rfl) (n := 8) (by rcases hp with rfl | rfl <;> rfl) (by rcases hp with rfl | rfl <;> rfl) (A := r84.toInt) rfl (by omega) (by omega) (lo := 0) (hi := 63) (by rcases hp with rfl | rfl <;> rfl) (by rcases hp with rfl | rfl <;> rfl) (fun v140 w_141 _ _ => ?_)
          have z_142 := PLs_r j_136 4 (by decide) (by decide) (k := r84.toInt) (by omega) (by omega) w_141
          have z_143 := x_row_v (s := sg) (r := 4) (x := r84.toInt) (y := x_fn sg 1 (x_val t nn a)) (by omega)
          refine to_an (pc := 6) rw_47_6 rfl ?_
          refine s_gR (pc := 7) rw_47_7 hG86 (by rcases hp with rfl | rfl <;> rfl) (v := (p + 3)) (by rcases hp with rfl | rfl <;> rfl) ?_
          refine to_in (pc := 10) rw_47_10 rfl ?_
          refine s_ialk (pc := 11) rw_47_11 hG86 (by rcases hp with rfl | rfl <;> rfl) (n := 8) (by rcases hp with rfl | rfl <;> rfl) (by rcases hp with rfl | rfl <;> rfl) (A := r84.toInt) rfl (by omega) (by omega) (v := v134) w_135 ?_
          refine s_sub (pc := 12) rw_47_12 (A := v140.toInt) (B := v134.toInt) rfl rfl (by omega) (fun v146 e147 => ?_)
          refine to_c (pc := 13) rw_47_13 (x := (1 : Int32)) rfl rfl ?_
          refine s_add (pc := 14) rw_47_14 (A := v146.toInt) (B := 1) rfl rfl (by omega) (fun v148 e149 => ?_)
          refine to_r0 (pc := 15) rw_47_15 ?_
          refine to_c (pc := 101) rw_103_101 (x := (1 : Int32)) rfl rfl ?_
          refine s_sub (pc := 102) rw_103_102 (A := v148.toInt) (B := 1) rfl rfl (by omega) (fun v150 e151 => ?_)
          refine to_is (pc := 103) rw_103_103 (ls2 := [.ref 28, .ref 1, .ref p, .ref 11, .int s, .int v134, .int v150, .int r69, .int r84]) rfl rfl ?_
          refine to_an (pc := 105) rw_103_105 rfl ?_
          refine s_v (pc := 106) rw_103_106 (dp0 hd (by decide)) (ls0 := [.ref 1]) rfl (Nat.le_of_ble_eq_true rfl) (Nat.le_of_ble_eq_true rfl) rfl (to_rc rfl rfl rfl (g_o hG86 rfl)) rfl ?_
          have j_152 := (CS_f (tg_28 F85) (CS_f (tg_28 F70) q3))
          have c_153 : M90.2.1 1 9 = (M.2.1 1 9) := (F_n F85 (show ¬ (1 < 0) by decide) (F_n F70 (show ¬ (1 < 0) by decide) rfl))
          have t_154 : (M90.2.1 1 9).toInt = (M.2.1 1 9).toInt := congrArg Int32.toInt c_153
          refine E_83 hX (dp1 hd (by decide)) hG86 j_152 (by omega) (t := t) (nn := nn) (a := a) (fun M159 hG156 F155 p_157 p_158 => ?_)
          have F160 := FR.c F91 F155 tg_135
          refine to_an (pc := 109) rw_103_109 rfl ?_
          refine to_c (pc := 110) rw_103_110 (x := (0 : Int32)) rfl rfl ?_
          refine to_i (pc := 111) rw_103_111 rfl ?_
          refine s_v (pc := 113) rw_103_113 (dp0 hd (by decide)) (ls0 := [.ref 1, .int (0 : Int32), .int v150]) rfl (Nat.le_of_ble_eq_true rfl) (Nat.le_of_ble_eq_true rfl) rfl (to_rc rfl rfl rfl (g_o hG156 rfl)) rfl ?_
          have k_161 : (0 : Int32).toInt = 0 := rfl
          have c_162 : M159.2.1 1 10 = (M.2.1 1 10) := (F_n F155 (show ¬ (1 = 1 ∧ 6 ≤ 10 ∧ 10 ≤ 9) by decide) (F_n F85 (show ¬ (1 < 0) by decide) (F_n F70 (show ¬ (1 < 0) by decide) rfl)))
          have t_163 : (M159.2.1 1 10).toInt = (M.2.1 1 10).toInt := congrArg Int32.toInt c_162
          have c_164 : M159.2.1 1 11 = (M.2.1 1 11) := (F_n F155 (show ¬ (1 = 1 ∧ 6 ≤ 11 ∧ 11 ≤ 9) by decide) (F_n F85 (show ¬ (1 < 0) by decide) (F_n F70 (show ¬ (1 < 0) by decide) rfl)))
          have t_165 : (M159.2.1 1 11).toInt = (M.2.1 1 11).toInt := congrArg Int32.toInt c_164
          refine E_88f hX (dp1 hd (by decide)) hG156 p_157 (by omega) (l := (0 : Int32)) (m := v150) (t := t) (nn := nn) (a := (x_ns t nn a)) (fun r166 M177 hG168 F167 p_169 p_170 p_171 p_172 p_173 p_174 p_175 p_176 => ?_)
          have F178 := FR.c F160 F167 tg_134
          rcases (show r166.toInt = 0 ∨ r166.toInt = 1 by omega) with h179 | h179
          · skip
            have p_180 := p_172 (by omega)
            have p_181 := p_173 (by omega)
            clear p_171 p_172 p_173 p_176
            have z_182 := x_val_b (t := t) (nn := nn) (a := (x_ns t nn a))
            refine b_ine_f (pc := 116) rw_103_116 (A := r166.toInt) rfl (by omega) ?_
            refine to_c (pc := 119) rw_103_119 (x := (0 : Int32)) rfl rfl ?_
            refine s_r1 (pc := 120) rw_103_120 (A := 0) rfl (by decide) ?_
            have c_183 : M177.2.1 1 9 = (M159.2.1 1 9) := (F_n F167 (show ¬ (1 = 1 ∧ (9 = 10 ∨ 9 = 11)) by decide) rfl)
            have t_184 : (M177.2.1 1 9).toInt = (M159.2.1 1 9).toInt := congrArg Int32.toInt c_183
            have j_185 := (CS_f (tg_34 F167) p_157)
            exact h (0 : Int32) M177 hG168 F178 (by decide) (by decide) j_185 (by omega) (fun z => absurd z (by decide)) (fun _ k9 => if g9 : x_kind t nn (x_ns t nn a) = 3 then winl (by omega) (by omega) ((p_ndf (by omega) (by omega) (by omega)).trans (p_nb2 g9 (by omega))) else winl (by omega) (by omega) ((p_ndf (by omega) (by omega) (by omega)).trans (p_nb1 g9))) (by omega)
          · skip
            have p_186 := p_171 (by omega)
            have p_187 := p_176 (by omega)
            clear p_171 p_172 p_173 p_176
            have c_188 : M177.2.1 1 8 = (M159.2.1 1 8) := (F_n F167 (show ¬ (1 = 1 ∧ (8 = 10 ∨ 8 = 11)) by decide) rfl)
            have z_189 := x_val_b (t := t) (nn := nn) (a := (x_ns t nn a)) (by omega)
            refine b_ine_t (pc := 116) rw_103_116 (A := r166.toInt) rfl (by omega) ?_
            refine to_an (pc := 121) rw_103_121 rfl ?_
            refine s_gR (pc := 122) rw_103_122 hG168 rfl (v := 33) rfl ?_
            refine to_i (pc := 125) rw_103_125 rfl ?_
            refine to_dup2 (pc := 127) rw_103_127 ?_
            refine s_lalE (pc := 128) rw_103_128 hG168 rfl (n := 40) rfl (A := s.toInt) rfl (by omega) (by omega) (fun l190 w_191 => ?_)
            refine to_cl (pc := 129) rw_103_129 rfl (x := (1 : Int64)) rfl ?_
            refine to_i (pc := 130) rw_103_130 rfl ?_
            refine to_an (pc := 132) rw_103_132 rfl ?_
            refine tt_gI (pc := 133) rw_103_133 (g_o hG168 rfl) (v := (M159.2.1 1 8)) c_188 ?_
            refine s_add (pc := 136) rw_103_136 (A := v134.toInt) (B := (M159.2.1 1 8).toInt) rfl rfl (by omega) (fun v192 e193 => ?_)
            refine to_2s (pc := 137) rw_103_137 (v := ((1 : Int64) <<< (v192.toInt64 &&& 63))) rfl ?_
            refine to_2l (pc := 138) rw_103_138 (v := (l190 ||| ((1 : Int64) <<< (v192.toInt64 &&& 63)))) rfl ?_
            refine s_las (pc := 139) rw_103_139 hG168 rfl (n := 40) rfl (A := s.toInt) rfl (by omega) (by omega) (fun M195 W194 => ?_)
            have hG196 := g_wl hG168 W194
            have F197 := FR.wl F178 W194 (show 33 = 1 ∧ 6 ≤ (s.toInt).toNat ∧ (s.toInt).toNat ≤ 11 ∨ 33 = 33 by omega)
            refine to_an (pc := 140) rw_103_140 rfl ?_
            refine s_v (pc := 141) rw_103_141 (dp0 hd (by decide)) (ls0 := [.ref 1]) rfl (Nat.le_of_ble_eq_true rfl) (Nat.le_of_ble_eq_true rfl) rfl (to_rc rfl rfl rfl (g_o hG196 rfl)) rfl ?_
            have j_198 := (CS_f (fun a i z => W_l W194 rfl) (CS_f (tg_34 F167) p_157))
            have c_199 : M195.2.1 1 9 = (M159.2.1 1 9) := (W_l W194 (F_n F167 (show ¬ (1 = 1 ∧ (9 = 10 ∨ 9 = 11)) by decide) rfl))
            have t_200 : (M195.2.1 1 9).toInt = (M159.2.1 1 9).toInt := congrArg Int32.toInt c_199
            refine E_83 hX (dp1 hd (by decide)) hG196 j_198 (by omega) (t := t) (nn := nn) (a := (x_ns t nn a)) (fun M205 hG202 F201 p_203 p_204 => ?_)
            have F206 := FR.c F197 F201 tg_135
            refine to_c (pc := 144) rw_103_144 (x := (1 : Int32)) rfl rfl ?_
            refine s_r1 (pc := 145) rw_103_145 (A := 1) rfl (by decide) ?_
            have k_207 : (1 : Int32).toInt = 1 := rfl
            have z_208 := x_ns_lt (t := t) (nn := nn) (a := a) (by omega) (x_lt_k (t := t) (by omega) (by omega))
            have z_209 := x_ns_b (t := t) (n := nn) (a := (x_ns t nn a)) (by omega) (by omega)
            have c_210 : M205.2.1 1 10 = (M177.2.1 1 10) := (F_n F201 (show ¬ (1 = 1 ∧ 6 ≤ 10 ∧ 10 ≤ 9) by decide) (W_l W194 rfl))
            have t_211 : (M205.2.1 1 10).toInt = (M177.2.1 1 10).toInt := congrArg Int32.toInt c_210
            have c_212 : M205.2.1 1 11 = (M177.2.1 1 11) := (F_n F201 (show ¬ (1 = 1 ∧ 6 ≤ 11 ∧ 11 ≤ 9) by decide) (W_l W194 rfl))
            have t_213 : (M205.2.1 1 11).toInt = (M177.2.1 1 11).toInt := congrArg Int32.toInt c_212
            exact h (1 : Int32) M205 hG202 F206 (by decide) (by decide) p_203 (by omega) (fun _ k9 => by rw [show (M205.2.1 1 9).toInt = (x_ns t nn (x_ns t nn a)) by omega]; exact (p_ndf (by omega) (by omega) (by omega)).trans (p_nb (by omega) (by omega))) (fun z => absurd z (by decide)) (by omega)
    · refine to_in (pc := 4) rw_44_4 rfl ?_
      refine to_an (pc := 5) rw_44_5 rfl ?_
      have c_214 : M75.2.1 p 3 = (M.2.1 p 3) := (F_n F70 (show ¬ (p < 0) by omega) rfl)
      refine tt_gI (pc := 6) rw_44_6 (g_o hG71 (by rcases hp with rfl | rfl <;> rfl)) (v := (M.2.1 p 3)) c_214 ?_
      refine b_cge (pc := 9) rw_44_9 (A := r69.toInt) (B := (M.2.1 p 3).toInt) rfl rfl (fun h215 => ?_) (fun h215 => ?_)
      · refine to_c (pc := 16) rw_44_16 (x := (0 : Int32)) rfl rfl ?_
        refine s_r1 (pc := 17) rw_44_17 (A := 0) rfl (by decide) ?_
        refine b_ieq_t (pc := 35) rw_103_35 (A := 0) rfl (by decide) ?_
        refine to_an (pc := 61) rw_103_61 rfl ?_
        refine to_an (pc := 62) rw_103_62 rfl ?_
        have c_216 : M75.2.1 1 8 = (M.2.1 1 8) := (F_n F70 (show ¬ (1 < 0) by decide) rfl)
        refine tt_gI (pc := 63) rw_103_63 (g_o hG71 rfl) (v := (M.2.1 1 8)) c_216 ?_
        refine s_v (pc := 66) rw_103_66 (dp0 hd (by decide)) (ls0 := [.ref p, .int (M.2.1 1 8)]) rfl (Nat.le_of_ble_eq_true rfl) (Nat.le_of_ble_eq_true rfl) rfl (to_rc rfl rfl rfl (g_o hG71 (by rcases hp with rfl | rfl <;> rfl))) rfl ?_
        refine to_an (pc := 0) rw_52_0 rfl ?_
        refine s_gR (pc := 1) rw_52_1 hG71 (by rcases hp with rfl | rfl <;> rfl) (v := (p + 1)) (by rcases hp with rfl | rfl <;> rfl) ?_
        refine to_an (pc := 4) rw_52_4 rfl ?_
        have c_217 : M75.2.1 p 2 = (M.2.1 p 2) := (F_n F70 (show ¬ (p < 0) by omega) rfl)
        refine tt_gI (pc := 5) rw_52_5 (g_o hG71 (by rcases hp with rfl | rfl <;> rfl)) (v := (M.2.1 p 2)) c_217 ?_
        refine to_in (pc := 8) rw_52_8 rfl ?_
        refine s_s (pc := 9) rw_52_9 (dp1 hd (by decide)) (ls0 := [.ref (p + 1), .int (M.2.1 p 2), .int (M.2.1 1 8), .null]) rfl (Nat.le_of_ble_eq_true rfl) (Nat.le_of_ble_eq_true rfl) rfl (to_rcs rfl rfl) rfl ?_
        have j_218 := (PLs_f (fun a i z => F_n F70 (show ¬ (a < 0) by omega) rfl) q5)
        refine E_54f hX (dp2 hd (by decide)) hG71 (by omega) (by omega) (by omega) (f := (p + 1)) (s := (M.2.1 p 2)) (x := (M.2.1 1 8)) (fun r219 M225 hG221 F220 p_222 p_223 p_224 => ?_)
        have F226 := FR.c F76 F220 tg_136
        have z_227 := PLs_n (v := (M.2.1 1 8).toInt) j_218 (n := (M.2.1 p 2).toInt) (by omega)
        have z_228 := x_fn_v (s := sg) (r := 1) (v := (M.2.1 1 8).toInt) (w := x_val t nn a) (by omega)
        have z_229 := x_fn_b (s := sg) (v := x_val t nn a) j_218.1
        refine to_r0 (pc := 12) rw_52_12 ?_
        refine to_is (pc := 69) rw_103_69 (ls2 := [.ref 28, .ref 1, .ref p, .ref 11, .int s, .int (0 : Int32), .int v16, .int r69, .int r219]) rfl rfl ?_
        refine to_an (pc := 71) rw_103_71 rfl ?_
        refine to_i (pc := 72) rw_103_72 rfl ?_
        refine s_v (pc := 74) rw_103_74 (dp0 hd (by decide)) (ls0 := [.ref p, .int r219]) rfl (Nat.le_of_ble_eq_true rfl) (Nat.le_of_ble_eq_true rfl) rfl (to_rc rfl rfl rfl (g_o hG221 (by rcases hp with rfl | rfl <;> rfl))) rfl ?_
        refine to_in (pc := 0) rw_43_0 rfl ?_
        refine b_ilt (pc := 1) rw_43_1 (A := r219.toInt) rfl (fun h230 => ?_) (fun h230 => ?_)
        · refine to_c (pc := 16) rw_43_16 (x := (0 : Int32)) rfl rfl ?_
          refine s_r1 (pc := 17) rw_43_17 (A := 0) rfl (by decide) ?_
          refine b_ine_f (pc := 77) rw_103_77 (A := 0) rfl (by decide) ?_
          refine to_an (pc := 80) rw_103_80 rfl ?_
          refine to_c (pc := 81) rw_103_81 (x := (4 : Int32)) rfl rfl ?_
          refine s_v (pc := 82) rw_103_82 (dp0 hd (by decide)) (ls0 := [.ref 1, .int (4 : Int32)]) rfl (Nat.le_of_ble_eq_true rfl) (Nat.le_of_ble_eq_true rfl) rfl (to_rc rfl rfl rfl (g_o hG221 rfl)) rfl ?_
          refine to_an (pc := 0) rw_84_0 rfl ?_
          refine to_in (pc := 1) rw_84_1 rfl ?_
          refine s_pI (pc := 2) rw_84_2 hG221 rfl (fun M232 W231 => ?_)
          have hG233 := g_wf hG221 W231 rfl rfl (by decide)
          have F234 := FR.w F226 W231 (show 1 = 1 ∧ 6 ≤ 10 ∧ 10 ≤ 11 ∨ 1 = 33 by decide)
          refine to_an (pc := 5) rw_84_5 rfl ?_
          refine to_an (pc := 6) rw_84_6 rfl ?_
          have c_235 : M232.2.1 1 9 = (M.2.1 1 9) := (W_n W231 (by decide) (F_n F220 (show ¬ (1 < 0) by decide) (F_n F70 (show ¬ (1 < 0) by decide) rfl)))
          refine tt_gI (pc := 7) rw_84_7 (g_o hG233 rfl) (v := (M.2.1 1 9)) c_235 ?_
          refine s_pI (pc := 10) rw_84_10 hG233 rfl (fun M237 W236 => ?_)
          have hG238 := g_wf hG233 W236 rfl rfl (by decide)
          have F239 := FR.w F234 W236 (show 1 = 1 ∧ 6 ≤ 11 ∧ 11 ≤ 11 ∨ 1 = 33 by decide)
          refine to_c (pc := 13) rw_84_13 (x := (0 : Int32)) rfl rfl ?_
          refine s_r1 (pc := 14) rw_84_14 (A := 0) rfl (by decide) ?_
          refine s_r1 (pc := 85) rw_103_85 (A := 0) rfl (by decide) ?_
          have k_240 : (0 : Int32).toInt = 0 := rfl
          have c_241 : M237.2.1 1 9 = (M.2.1 1 9) := (W_n W236 (by decide) c_235)
          have t_242 : (M237.2.1 1 9).toInt = (M.2.1 1 9).toInt := congrArg Int32.toInt c_241
          have j_243 := (CS_f (fun a i z => W_n W236 (tg_32 a i z) rfl) (CS_f (fun a i z => W_n W231 (tg_33 a i z) rfl) (CS_f (tg_28 F220) (CS_f (tg_28 F70) q3))))
          have c_244 : M237.2.1 1 10 = (4 : Int32) := (W_n W236 (by decide) (W_e W231))
          have k_245 : (4 : Int32).toInt = 4 := rfl
          have t_246 : (M237.2.1 1 10).toInt = (4 : Int32).toInt := congrArg Int32.toInt c_244
          have c_247 : M237.2.1 1 11 = (M.2.1 1 9) := (W_e W236)
          have t_248 : (M237.2.1 1 11).toInt = (M.2.1 1 9).toInt := congrArg Int32.toInt c_247
          exact h (0 : Int32) M237 hG238 F239 (by decide) (by decide) j_243 (by omega) (fun z => absurd z (by decide)) (fun _ k9 => winl (by omega) (by omega) (p_ndx (by omega) (by omega) (by omega))) (by omega)
        · refine to_in (pc := 4) rw_43_4 rfl ?_
          refine to_an (pc := 5) rw_43_5 rfl ?_
          have c_249 : M225.2.1 p 2 = (M.2.1 p 2) := (F_n F220 (show ¬ (p < 0) by omega) c_217)
          refine tt_gI (pc := 6) rw_43_6 (g_o hG221 (by rcases hp with rfl | rfl <;> rfl)) (v := (M.2.1 p 2)) c_249 ?_
          refine b_cge (pc := 9) rw_43_9 (A := r219.toInt) (B := (M.2.1 p 2).toInt) rfl rfl (fun h250 => ?_) (fun h250 => ?_)
          · refine to_c (pc := 16) rw_43_16 (x := (0 : Int32)) rfl rfl ?_
            refine s_r1 (pc := 17) rw_43_17 (A := 0) rfl (by decide) ?_
            refine b_ine_f (pc := 77) rw_103_77 (A := 0) rfl (by decide) ?_
            refine to_an (pc := 80) rw_103_80 rfl ?_
            refine to_c (pc := 81) rw_103_81 (x := (4 : Int32)) rfl rfl ?_
            refine s_v (pc := 82) rw_103_82 (dp0 hd (by decide)) (ls0 := [.ref 1, .int (4 : Int32)]) rfl (Nat.le_of_ble_eq_true rfl) (Nat.le_of_ble_eq_true rfl) rfl (to_rc rfl rfl rfl (g_o hG221 rfl)) rfl ?_
            refine to_an (pc := 0) rw_84_0 rfl ?_
            refine to_in (pc := 1) rw_84_1 rfl ?_
            refine s_pI (pc := 2) rw_84_2 hG221 rfl (fun M252 W251 => ?_)
            have hG253 := g_wf hG221 W251 rfl rfl (by decide)
            have F254 := FR.w F226 W251 (show 1 = 1 ∧ 6 ≤ 10 ∧ 10 ≤ 11 ∨ 1 = 33 by decide)
            refine to_an (pc := 5) rw_84_5 rfl ?_
            refine to_an (pc := 6) rw_84_6 rfl ?_
            have c_255 : M252.2.1 1 9 = (M.2.1 1 9) := (W_n W251 (by decide) (F_n F220 (show ¬ (1 < 0) by decide) (F_n F70 (show ¬ (1 < 0) by decide) rfl)))
            refine tt_gI (pc := 7) rw_84_7 (g_o hG253 rfl) (v := (M.2.1 1 9)) c_255 ?_
            refine s_pI (pc := 10) rw_84_10 hG253 rfl (fun M257 W256 => ?_)
            have hG258 := g_wf hG253 W256 rfl rfl (by decide)
            have F259 := FR.w F254 W256 (show 1 = 1 ∧ 6 ≤ 11 ∧ 11 ≤ 11 ∨ 1 = 33 by decide)
            refine to_c (pc := 13) rw_84_13 (x := (0 : Int32)) rfl rfl ?_
            refine s_r1 (pc := 14) rw_84_14 (A := 0) rfl (by decide) ?_
            refine s_r1 (pc := 85) rw_103_85 (A := 0) rfl (by decide) ?_
            have k_260 : (0 : Int32).toInt = 0 := rfl
            have c_261 : M257.2.1 1 9 = (M.2.1 1 9) := (W_n W256 (by decide) c_255)
            have t_262 : (M257.2.1 1 9).toInt = (M.2.1 1 9).toInt := congrArg Int32.toInt c_261
            have j_263 := (CS_f (fun a i z => W_n W256 (tg_32 a i z) rfl) (CS_f (fun a i z => W_n W251 (tg_33 a i z) rfl) (CS_f (tg_28 F220) (CS_f (tg_28 F70) q3))))
            have c_264 : M257.2.1 1 10 = (4 : Int32) := (W_n W256 (by decide) (W_e W251))
            have k_265 : (4 : Int32).toInt = 4 := rfl
            have t_266 : (M257.2.1 1 10).toInt = (4 : Int32).toInt := congrArg Int32.toInt c_264
            have c_267 : M257.2.1 1 11 = (M.2.1 1 9) := (W_e W256)
            have t_268 : (M257.2.1 1 11).toInt = (M.2.1 1 9).toInt := congrArg Int32.toInt c_267
            exact h (0 : Int32) M257 hG258 F259 (by decide) (by decide) j_263 (by omega) (fun z => absurd z (by decide)) (fun _ k9 => winl (by omega) (by omega) (p_ndx (by omega) (by omega) (by omega))) (by omega)
          · refine to_c (pc := 12) rw_43_12 (x := (1 : Int32)) rfl rfl ?_
            refine to_go (pc := 13) rw_43_13 ?_
            refine s_r1 (pc := 17) rw_43_17 (A := 1) rfl (by decide) ?_
            refine b_ine_t (pc := 77) rw_103_77 (A := 1) rfl (by decide) ?_
            refine to_an (pc := 86) rw_103_86 rfl ?_
            refine s_gR (pc := 87) rw_103_87 hG221 (by rcases hp with rfl | rfl <;> rfl) (v := (p + 3)) (by rcases hp with rfl | rfl <;> rfl) ?_
            refine to_i (pc := 90) rw_103_90 rfl ?_
            refine s_ial (pc := 92) rw_103_92 hG221 (by rcases hp with rfl | rfl <;> rfl) (n := 8) (by rcases hp with rfl | rfl <;> rfl) (by rcases hp with rfl | rfl <;> rfl) (A := r219.toInt) rfl (by omega) (by omega) (lo := 0) (hi := 59) (by rcases hp with rfl | rfl <;> rfl) (by rcases hp with rfl | rfl <;> rfl) (fun v269 w_270 _ _ => ?_)
            have j_271 := (PLs_f (fun a i z => F_n F220 (show ¬ (a < 0) by omega) rfl) j_218)
            have z_272 := PLs_r j_271 3 (by decide) (by decide) (k := r219.toInt) (by omega) (by omega) w_270
            have z_273 := x_row_v (s := sg) (r := 3) (x := r219.toInt) (y := x_fn sg 1 (x_val t nn a)) (by omega)
            have z_274 := j_271.1.2.2.2.2.2.2.2 (x_fn sg 1 (x_val t nn a)) (by omega) (by omega)
            refine to_is (pc := 93) rw_103_93 (ls2 := [.ref 28, .ref 1, .ref p, .ref 11, .int s, .int v269, .int v16, .int r69, .int r219]) rfl rfl ?_
            refine to_an (pc := 95) rw_103_95 rfl ?_
            refine to_i (pc := 96) rw_103_96 rfl ?_
            refine s_v (pc := 98) rw_103_98 (dp0 hd (by decide)) (ls0 := [.ref p, .int r219]) rfl (Nat.le_of_ble_eq_true rfl) (Nat.le_of_ble_eq_true rfl) rfl (to_rc rfl rfl rfl (g_o hG221 (by rcases hp with rfl | rfl <;> rfl))) rfl ?_
            refine to_an (pc := 0) rw_47_0 rfl ?_
            refine s_gR (pc := 1) rw_47_1 hG221 (by rcases hp with rfl | rfl <;> rfl) (v := (p + 4)) (by rcases hp with rfl | rfl <;> rfl) ?_
            refine to_in (pc := 4) rw_47_4 rfl ?_
            refine s_ial (pc := 5) rw_47_5 hG221 (by rcases hp with rfl | rfl <;> rfl) (n := 8) (by rcases hp with rfl | rfl <;> rfl) (by rcases hp with rfl | rfl <;> rfl) (A := r219.toInt) rfl (by omega) (by omega) (lo := 0) (hi := 63) (by rcases hp with rfl | rfl <;> rfl) (by rcases hp with rfl | rfl <;> rfl) (fun v275 w_276 _ _ => ?_)
            have z_277 := PLs_r j_271 4 (by decide) (by decide) (k := r219.toInt) (by omega) (by omega) w_276
            have z_278 := x_row_v (s := sg) (r := 4) (x := r219.toInt) (y := x_fn sg 1 (x_val t nn a)) (by omega)
            refine to_an (pc := 6) rw_47_6 rfl ?_
            refine s_gR (pc := 7) rw_47_7 hG221 (by rcases hp with rfl | rfl <;> rfl) (v := (p + 3)) (by rcases hp with rfl | rfl <;> rfl) ?_
            refine to_in (pc := 10) rw_47_10 rfl ?_
            refine s_ialk (pc := 11) rw_47_11 hG221 (by rcases hp with rfl | rfl <;> rfl) (n := 8) (by rcases hp with rfl | rfl <;> rfl) (by rcases hp with rfl | rfl <;> rfl) (A := r219.toInt) rfl (by omega) (by omega) (v := v269) w_270 ?_
            refine s_sub (pc := 12) rw_47_12 (A := v275.toInt) (B := v269.toInt) rfl rfl (by omega) (fun v281 e282 => ?_)
            refine to_c (pc := 13) rw_47_13 (x := (1 : Int32)) rfl rfl ?_
            refine s_add (pc := 14) rw_47_14 (A := v281.toInt) (B := 1) rfl rfl (by omega) (fun v283 e284 => ?_)
            refine to_r0 (pc := 15) rw_47_15 ?_
            refine to_c (pc := 101) rw_103_101 (x := (1 : Int32)) rfl rfl ?_
            refine s_sub (pc := 102) rw_103_102 (A := v283.toInt) (B := 1) rfl rfl (by omega) (fun v285 e286 => ?_)
            refine to_is (pc := 103) rw_103_103 (ls2 := [.ref 28, .ref 1, .ref p, .ref 11, .int s, .int v269, .int v285, .int r69, .int r219]) rfl rfl ?_
            refine to_an (pc := 105) rw_103_105 rfl ?_
            refine s_v (pc := 106) rw_103_106 (dp0 hd (by decide)) (ls0 := [.ref 1]) rfl (Nat.le_of_ble_eq_true rfl) (Nat.le_of_ble_eq_true rfl) rfl (to_rc rfl rfl rfl (g_o hG221 rfl)) rfl ?_
            have j_287 := (CS_f (tg_28 F220) (CS_f (tg_28 F70) q3))
            have c_288 : M225.2.1 1 9 = (M.2.1 1 9) := (F_n F220 (show ¬ (1 < 0) by decide) (F_n F70 (show ¬ (1 < 0) by decide) rfl))
            have t_289 : (M225.2.1 1 9).toInt = (M.2.1 1 9).toInt := congrArg Int32.toInt c_288
            refine E_83 hX (dp1 hd (by decide)) hG221 j_287 (by omega) (t := t) (nn := nn) (a := a) (fun M294 hG291 F290 p_292 p_293 => ?_)
            have F295 := FR.c F226 F290 tg_135
            refine to_an (pc := 109) rw_103_109 rfl ?_
            refine to_c (pc := 110) rw_103_110 (x := (0 : Int32)) rfl rfl ?_
            refine to_i (pc := 111) rw_103_111 rfl ?_
            refine s_v (pc := 113) rw_103_113 (dp0 hd (by decide)) (ls0 := [.ref 1, .int (0 : Int32), .int v285]) rfl (Nat.le_of_ble_eq_true rfl) (Nat.le_of_ble_eq_true rfl) rfl (to_rc rfl rfl rfl (g_o hG291 rfl)) rfl ?_
            have k_296 : (0 : Int32).toInt = 0 := rfl
            have c_297 : M294.2.1 1 10 = (M.2.1 1 10) := (F_n F290 (show ¬ (1 = 1 ∧ 6 ≤ 10 ∧ 10 ≤ 9) by decide) (F_n F220 (show ¬ (1 < 0) by decide) (F_n F70 (show ¬ (1 < 0) by decide) rfl)))
            have t_298 : (M294.2.1 1 10).toInt = (M.2.1 1 10).toInt := congrArg Int32.toInt c_297
            have c_299 : M294.2.1 1 11 = (M.2.1 1 11) := (F_n F290 (show ¬ (1 = 1 ∧ 6 ≤ 11 ∧ 11 ≤ 9) by decide) (F_n F220 (show ¬ (1 < 0) by decide) (F_n F70 (show ¬ (1 < 0) by decide) rfl)))
            have t_300 : (M294.2.1 1 11).toInt = (M.2.1 1 11).toInt := congrArg Int32.toInt c_299
            refine E_88f hX (dp1 hd (by decide)) hG291 p_292 (by omega) (l := (0 : Int32)) (m := v285) (t := t) (nn := nn) (a := (x_ns t nn a)) (fun r301 M312 hG303 F302 p_304 p_305 p_306 p_307 p_308 p_309 p_310 p_311 => ?_)
            have F313 := FR.c F295 F302 tg_134
            rcases (show r301.toInt = 0 ∨ r301.toInt = 1 by omega) with h314 | h314
            · skip
              have p_315 := p_307 (by omega)
              have p_316 := p_308 (by omega)
              clear p_306 p_307 p_308 p_311
              have z_317 := x_val_b (t := t) (nn := nn) (a := (x_ns t nn a))
              refine b_ine_f (pc := 116) rw_103_116 (A := r301.toInt) rfl (by omega) ?_
              refine to_c (pc := 119) rw_103_119 (x := (0 : Int32)) rfl rfl ?_
              refine s_r1 (pc := 120) rw_103_120 (A := 0) rfl (by decide) ?_
              have c_318 : M312.2.1 1 9 = (M294.2.1 1 9) := (F_n F302 (show ¬ (1 = 1 ∧ (9 = 10 ∨ 9 = 11)) by decide) rfl)
              have t_319 : (M312.2.1 1 9).toInt = (M294.2.1 1 9).toInt := congrArg Int32.toInt c_318
              have j_320 := (CS_f (tg_34 F302) p_292)
              exact h (0 : Int32) M312 hG303 F313 (by decide) (by decide) j_320 (by omega) (fun z => absurd z (by decide)) (fun _ k9 => if g9 : x_kind t nn (x_ns t nn a) = 3 then winl (by omega) (by omega) ((p_ndf (by omega) (by omega) (by omega)).trans (p_nb2 g9 (by omega))) else winl (by omega) (by omega) ((p_ndf (by omega) (by omega) (by omega)).trans (p_nb1 g9))) (by omega)
            · skip
              have p_321 := p_306 (by omega)
              have p_322 := p_311 (by omega)
              clear p_306 p_307 p_308 p_311
              have c_323 : M312.2.1 1 8 = (M294.2.1 1 8) := (F_n F302 (show ¬ (1 = 1 ∧ (8 = 10 ∨ 8 = 11)) by decide) rfl)
              have z_324 := x_val_b (t := t) (nn := nn) (a := (x_ns t nn a)) (by omega)
              refine b_ine_t (pc := 116) rw_103_116 (A := r301.toInt) rfl (by omega) ?_
              refine to_an (pc := 121) rw_103_121 rfl ?_
              refine s_gR (pc := 122) rw_103_122 hG303 rfl (v := 33) rfl ?_
              refine to_i (pc := 125) rw_103_125 rfl ?_
              refine to_dup2 (pc := 127) rw_103_127 ?_
              refine s_lalE (pc := 128) rw_103_128 hG303 rfl (n := 40) rfl (A := s.toInt) rfl (by omega) (by omega) (fun l325 w_326 => ?_)
              refine to_cl (pc := 129) rw_103_129 rfl (x := (1 : Int64)) rfl ?_
              refine to_i (pc := 130) rw_103_130 rfl ?_
              refine to_an (pc := 132) rw_103_132 rfl ?_
              refine tt_gI (pc := 133) rw_103_133 (g_o hG303 rfl) (v := (M294.2.1 1 8)) c_323 ?_
              refine s_add (pc := 136) rw_103_136 (A := v269.toInt) (B := (M294.2.1 1 8).toInt) rfl rfl (by omega) (fun v327 e328 => ?_)
              refine to_2s (pc := 137) rw_103_137 (v := ((1 : Int64) <<< (v327.toInt64 &&& 63))) rfl ?_
              refine to_2l (pc := 138) rw_103_138 (v := (l325 ||| ((1 : Int64) <<< (v327.toInt64 &&& 63)))) rfl ?_
              refine s_las (pc := 139) rw_103_139 hG303 rfl (n := 40) rfl (A := s.toInt) rfl (by omega) (by omega) (fun M330 W329 => ?_)
              have hG331 := g_wl hG303 W329
              have F332 := FR.wl F313 W329 (show 33 = 1 ∧ 6 ≤ (s.toInt).toNat ∧ (s.toInt).toNat ≤ 11 ∨ 33 = 33 by omega)
              refine to_an (pc := 140) rw_103_140 rfl ?_
              refine s_v (pc := 141) rw_103_141 (dp0 hd (by decide)) (ls0 := [.ref 1]) rfl (Nat.le_of_ble_eq_true rfl) (Nat.le_of_ble_eq_true rfl) rfl (to_rc rfl rfl rfl (g_o hG331 rfl)) rfl ?_
              have j_333 := (CS_f (fun a i z => W_l W329 rfl) (CS_f (tg_34 F302) p_292))
              have c_334 : M330.2.1 1 9 = (M294.2.1 1 9) := (W_l W329 (F_n F302 (show ¬ (1 = 1 ∧ (9 = 10 ∨ 9 = 11)) by decide) rfl))
              have t_335 : (M330.2.1 1 9).toInt = (M294.2.1 1 9).toInt := congrArg Int32.toInt c_334
              refine E_83 hX (dp1 hd (by decide)) hG331 j_333 (by omega) (t := t) (nn := nn) (a := (x_ns t nn a)) (fun M340 hG337 F336 p_338 p_339 => ?_)
              have F341 := FR.c F332 F336 tg_135
              refine to_c (pc := 144) rw_103_144 (x := (1 : Int32)) rfl rfl ?_
              refine s_r1 (pc := 145) rw_103_145 (A := 1) rfl (by decide) ?_
              have k_342 : (1 : Int32).toInt = 1 := rfl
              have z_343 := x_ns_lt (t := t) (nn := nn) (a := a) (by omega) (x_lt_k (t := t) (by omega) (by omega))
              have z_344 := x_ns_b (t := t) (n := nn) (a := (x_ns t nn a)) (by omega) (by omega)
              have c_345 : M340.2.1 1 10 = (M312.2.1 1 10) := (F_n F336 (show ¬ (1 = 1 ∧ 6 ≤ 10 ∧ 10 ≤ 9) by decide) (W_l W329 rfl))
              have t_346 : (M340.2.1 1 10).toInt = (M312.2.1 1 10).toInt := congrArg Int32.toInt c_345
              have c_347 : M340.2.1 1 11 = (M312.2.1 1 11) := (F_n F336 (show ¬ (1 = 1 ∧ 6 ≤ 11 ∧ 11 ≤ 9) by decide) (W_l W329 rfl))
              have t_348 : (M340.2.1 1 11).toInt = (M312.2.1 1 11).toInt := congrArg Int32.toInt c_347
              exact h (1 : Int32) M340 hG337 F341 (by decide) (by decide) p_338 (by omega) (fun _ k9 => by rw [show (M340.2.1 1 9).toInt = (x_ns t nn (x_ns t nn a)) by omega]; exact (p_ndf (by omega) (by omega) (by omega)).trans (p_nb (by omega) (by omega))) (fun z => absurd z (by decide)) (by omega)
      · refine to_c (pc := 12) rw_44_12 (x := (1 : Int32)) rfl rfl ?_
        refine to_go (pc := 13) rw_44_13 ?_
        refine s_r1 (pc := 17) rw_44_17 (A := 1) rfl (by decide) ?_
        refine b_ieq_f (pc := 35) rw_103_35 (A := 1) rfl (by decide) ?_
        refine to_an (pc := 38) rw_103_38 rfl ?_
        refine s_gR (pc := 39) rw_103_39 hG71 rfl (v := 33) rfl ?_
        refine to_i (pc := 42) rw_103_42 rfl ?_
        refine to_dup2 (pc := 44) rw_103_44 ?_
        refine s_lalE (pc := 45) rw_103_45 hG71 rfl (n := 40) rfl (A := s.toInt) rfl (by omega) (by omega) (fun l349 w_350 => ?_)
        refine to_an (pc := 46) rw_103_46 rfl ?_
        refine s_gR (pc := 47) rw_103_47 hG71 rfl (v := 15) rfl ?_
        refine to_i (pc := 50) rw_103_50 rfl ?_
        refine s_lalE (pc := 52) rw_103_52 hG71 rfl (n := 12) rfl (A := r69.toInt) rfl (by omega) (by omega) (fun l351 w_352 => ?_)
        refine to_2l (pc := 53) rw_103_53 (v := (l349 ||| l351)) rfl ?_
        refine s_las (pc := 54) rw_103_54 hG71 rfl (n := 40) rfl (A := s.toInt) rfl (by omega) (by omega) (fun M354 W353 => ?_)
        have hG355 := g_wl hG71 W353
        have F356 := FR.wl F76 W353 (show 33 = 1 ∧ 6 ≤ (s.toInt).toNat ∧ (s.toInt).toNat ≤ 11 ∨ 33 = 33 by omega)
        refine to_an (pc := 55) rw_103_55 rfl ?_
        refine s_v (pc := 56) rw_103_56 (dp0 hd (by decide)) (ls0 := [.ref 1]) rfl (Nat.le_of_ble_eq_true rfl) (Nat.le_of_ble_eq_true rfl) rfl (to_rc rfl rfl rfl (g_o hG355 rfl)) rfl ?_
        have j_357 := (CS_f (fun a i z => W_l W353 rfl) (CS_f (tg_28 F70) q3))
        have c_358 : M354.2.1 1 9 = (M.2.1 1 9) := (W_l W353 (F_n F70 (show ¬ (1 < 0) by decide) rfl))
        have t_359 : (M354.2.1 1 9).toInt = (M.2.1 1 9).toInt := congrArg Int32.toInt c_358
        refine E_83 hX (dp1 hd (by decide)) hG355 j_357 (by omega) (t := t) (nn := nn) (a := a) (fun M364 hG361 F360 p_362 p_363 => ?_)
        have F365 := FR.c F356 F360 tg_135
        refine to_c (pc := 59) rw_103_59 (x := (1 : Int32)) rfl rfl ?_
        refine s_r1 (pc := 60) rw_103_60 (A := 1) rfl (by decide) ?_
        have k_366 : (1 : Int32).toInt = 1 := rfl
        have z_367 := x_ns_lt (t := t) (nn := nn) (a := a) (by omega) (x_lt_k (t := t) (by omega) (by omega))
        have c_368 : M364.2.1 1 10 = (M.2.1 1 10) := (F_n F360 (show ¬ (1 = 1 ∧ 6 ≤ 10 ∧ 10 ≤ 9) by decide) (W_l W353 (F_n F70 (show ¬ (1 < 0) by decide) rfl)))
        have t_369 : (M364.2.1 1 10).toInt = (M.2.1 1 10).toInt := congrArg Int32.toInt c_368
        have c_370 : M364.2.1 1 11 = (M.2.1 1 11) := (F_n F360 (show ¬ (1 = 1 ∧ 6 ≤ 11 ∧ 11 ≤ 9) by decide) (W_l W353 (F_n F70 (show ¬ (1 < 0) by decide) rfl)))
        have t_371 : (M364.2.1 1 11).toInt = (M.2.1 1 11).toInt := congrArg Int32.toInt c_370
        exact h (1 : Int32) M364 hG361 F365 (by decide) (by decide) p_362 (by omega) (fun _ k9 => by rw [show (M364.2.1 1 9).toInt = (x_ns t nn a) by omega]; exact p_ndw (by omega) (by omega)) (fun z => absurd z (by decide)) (by omega)
