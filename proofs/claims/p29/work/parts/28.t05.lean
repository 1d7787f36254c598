theorem tg_157 : ∀ a i : Nat, (a = 1 ∧ (i = 10 ∨ i = 11)) → (a = 1 ∧ 6 ≤ i ∧ i ≤ 11 ∨ a = 33) := fun a i z => by omega
theorem tg_158 : ∀ a i : Nat, (a = 1 ∧ 6 ≤ i ∧ i ≤ 9) → (a = 1 ∧ 6 ≤ i ∧ i ≤ 11 ∨ a = 33) := fun a i z => by omega
theorem tg_159 : ∀ a i : Nat, (a < 0) → (a = 1 ∧ 6 ≤ i ∧ i ≤ 11 ∨ a = 33) := fun a i z => by omega
set_option maxRecDepth 4000 in
set_option maxHeartbeats 0 in
theorem E_103 {X : mm_X} {d : Nat} {M : mm_M} {Q : Option Value → mm_M → Prop} {p : Nat} {s : Int32} {t : Nat → Int} {nn : Int} {a : Int} {sg : x_S} {C9 : Nat → Int64} (hX : g_X X) (hd : 2 ≤ d) (hG : g_G M) (hp : p = 49 ∨ p = 58) (q1 : 0 ≤ s.toInt) (q2 : s.toInt ≤ 39) (q3 : CS M t nn) (q4 : (M.2.1 1 9).toInt = a) (q5 : PLs M p sg) (q6 : ∀ w : Nat, (w : Int) < sg.2.2.1 → M.2.2.1 15 w = C9 w) (h : ∀ (r : Int32) (M1 : mm_M), g_G M1 → FR md_w103 M M1 → (0 ≤ r.toInt) → (r.toInt ≤ 1) → CS M1 t nn → (r.toInt = 1 → a < (M1.2.1 1 9).toInt) → ((r.toInt = 1 → M1.2.2.1 33 (s.toInt).toNat = M.2.2.1 33 (s.toInt).toNat ||| x_nb t nn sg C9 a ∧ (M1.2.1 1 9).toInt = x_ng t nn sg a)) → (∀ i : Nat, ¬ i = (s.toInt).toNat → M1.2.2.1 33 i = M.2.2.1 33 i) → ((r.toInt = 1 → x_kind t nn a = 2 ∨ x_kind t nn a = 3)) → ((r.toInt = 1 → ∀ k : Int → x_WR, x_wnd t nn sg a k = k (M1.2.1 1 9).toInt)) → ((r.toInt = 0 → ∀ k : Int → x_WR, x_wnd t nn sg a k = Sum.inl ((M1.2.1 1 10).toInt, (M1.2.1 1 11).toInt))) → Q (some (.int r)) M1) : mm_T X d 103 0 [.ref 28, .ref 1, .ref p, .ref 11, .int s, .null, .null, .null, .null] [] M Q := by
  have F0 : FR md_w103 M M := FR.rf
  have c_1 := CS_u q3 (a := a) (by omega)
  unfold x_C at c_1
  have z_2 := c_1.2
  have z_3 := q5.2.1
  have z_4 := q5.2.2.1
  have z_5 := q5.2.2.2.1
  have z_6 := q5.1
  have z_7 := z_6.1
  have z_8 := z_6.2.1
  have z_9 := z_6.2.2.1
  have z_10 := z_6.2.2.2.1
  have z_11 := z_6.2.2.2.2.1
  have z_12 := z_6.2.2.2.2.2.1
  have b_13 := g_b hG (a := p) (i := 0) (lo := 10) (hi := 60) (by rcases hp with rfl | rfl <;> rfl) (by rcases hp with rfl | rfl <;> rfl)
  have b_14 := g_b hG (a := p) (i := 2) (lo := 0) (hi := 8) (by rcases hp with rfl | rfl <;> rfl) (by rcases hp with rfl | rfl <;> rfl)
  have b_15 := g_b hG (a := p) (i := 3) (lo := 0) (hi := 12) (by rcases hp with rfl | rfl <;> rfl) (by rcases hp with rfl | rfl <;> rfl)
  refine to_c (pc := 0) rw_103_0 (x := (0 : Int32)) rfl rfl ?_
  refine to_is (pc := 1) rw_103_1 (ls2 := [.ref 28, .ref 1, .ref p, .ref 11, .int s, .int (0 : Int32), .null, .null, .null]) rfl rfl ?_
  refine to_an (pc := 3) rw_103_3 rfl ?_
  refine tt_gI (pc := 4) rw_103_4 (g_o hG (by rcases hp with rfl | rfl <;> rfl)) (v := (M.2.1 p 0)) rfl ?_
  refine to_c (pc := 7) rw_103_7 (x := (1 : Int32)) rfl rfl ?_
  refine s_sub (pc := 8) rw_103_8 (A := (M.2.1 p 0).toInt) (B := 1) rfl rfl (by omega) (fun v16 e17 => ?_)
  refine to_is (pc := 9) rw_103_9 (ls2 := [.ref 28, .ref 1, .ref p, .ref 11, .int s, .int (0 : Int32), .int v16, .null, .null]) rfl rfl ?_
  refine to_an (pc := 11) rw_103_11 rfl ?_
  refine tt_gI (pc := 12) rw_103_12 (g_o hG rfl) (v := (M.2.1 1 7)) rfl ?_
  refine to_c (pc := 15) rw_103_15 (x := (3 : Int32)) rfl rfl ?_
  refine b_cne (pc := 16) rw_103_16 (A := (M.2.1 1 7).toInt) (B := 3) rfl rfl (fun h18 => ?_) (fun h18 => ?_)
  · have z_19 : ¬ x_kind t nn a = 2 := by omega
    clear c_1
    refine to_an (pc := 109) rw_103_109 rfl ?_
    refine to_c (pc := 110) rw_103_110 (x := (0 : Int32)) rfl rfl ?_
    refine to_i (pc := 111) rw_103_111 rfl ?_
    refine s_v (pc := 113) rw_103_113 (dp0 hd (by decide)) (ls0 := [.ref 1, .int (0 : Int32), .int v16]) rfl (Nat.le_of_ble_eq_true rfl) (Nat.le_of_ble_eq_true rfl) rfl (to_rc rfl rfl rfl (g_o hG rfl)) rfl ?_
    have k_20 : (0 : Int32).toInt = 0 := rfl
    refine E_88f hX (dp1 hd (by decide)) hG q3 (by omega) (l := (0 : Int32)) (m := v16) (t := t) (nn := nn) (a := a) (fun r21 M31 hG23 F22 p_24 p_25 p_26 p_27 p_28 p_29 p_30 => ?_)
    have F32 := FR.c F0 F22 tg_157
    rcases (show r21.toInt = 0 ∨ r21.toInt = 1 by omega) with h33 | h33
    · skip
      have p_34 := p_27 (by omega)
      have p_35 := p_28 (by omega)
      clear p_26 p_27 p_28
      have z_36 := x_val_b (t := t) (nn := nn) (a := a)
      refine b_ine_f (pc := 116) rw_103_116 (A := r21.toInt) rfl (by omega) ?_
      refine to_c (pc := 119) rw_103_119 (x := (0 : Int32)) rfl rfl ?_
      refine s_r1 (pc := 120) rw_103_120 (A := 0) rfl (by decide) ?_
      have c_37 : M31.2.1 1 9 = (M.2.1 1 9) := (F_n F22 (show ¬ (1 = 1 ∧ (9 = 10 ∨ 9 = 11)) by decide) rfl)
      have t_38 : (M31.2.1 1 9).toInt = (M.2.1 1 9).toInt := congrArg Int32.toInt c_37
      have j_39 := (CS_f (tg_34 F22) q3)
      exact h (0 : Int32) M31 hG23 F32 (by decide) (by decide) j_39 (by omega) (fun z => absurd z (by decide)) (fun i hi => (F_nl F22 (show ¬ (33 = 1 ∧ (i = 10 ∨ i = 11)) by omega) rfl)) (fun z => absurd z (by decide)) (fun z => absurd z (by decide)) (fun _ k9 => if g9 : x_kind t nn a = 3 then winl (by omega) (by omega) ((p_ndn (by omega)).trans (p_nb2 g9 (by omega))) else winl (by omega) (by omega) ((p_ndn (by omega)).trans (p_nb1 g9)))
    · skip
      have p_40 := p_26 (by omega)
      clear p_26 p_27 p_28
      have c_41 : M31.2.1 1 8 = (M.2.1 1 8) := (F_n F22 (show ¬ (1 = 1 ∧ (8 = 10 ∨ 8 = 11)) by decide) rfl)
      have z_42 := x_val_b (t := t) (nn := nn) (a := a) (by omega)
      refine b_ine_t (pc := 116) rw_103_116 (A := r21.toInt) rfl (by omega) ?_
      refine to_an (pc := 121) rw_103_121 rfl ?_
      refine s_gR (pc := 122) rw_103_122 hG23 rfl (v := 33) rfl ?_
      refine to_i (pc := 125) rw_103_125 rfl ?_
      refine to_dup2 (pc := 127) rw_103_127 ?_
      refine s_lalE (pc := 128) rw_103_128 hG23 rfl (n := 40) rfl (A := s.toInt) rfl (by omega) (by omega) (fun l43 w_44 => ?_)
      have z_45 : l43 = M.2.2.1 33 (s.toInt).toNat := (w_44).symm.trans ((F_nl F22 (show ¬ (33 = 1 ∧ ((s.toInt).toNat = 10 ∨ (s.toInt).toNat = 11)) by omega) rfl))
      refine to_cl (pc := 129) rw_103_129 rfl (x := (1 : Int64)) rfl ?_
      refine to_i (pc := 130) rw_103_130 rfl ?_
      refine to_an (pc := 132) rw_103_132 rfl ?_
      refine tt_gI (pc := 133) rw_103_133 (g_o hG23 rfl) (v := (M.2.1 1 8)) c_41 ?_
      refine s_add (pc := 136) rw_103_136 (A := 0) (B := (M.2.1 1 8).toInt) rfl rfl (by omega) (fun v46 e47 => ?_)
      refine to_2s (pc := 137) rw_103_137 (v := ((1 : Int64) <<< (v46.toInt64 &&& 63))) rfl ?_
      refine to_2l (pc := 138) rw_103_138 (v := (l43 ||| ((1 : Int64) <<< (v46.toInt64 &&& 63)))) rfl ?_
      refine s_las (pc := 139) rw_103_139 hG23 rfl (n := 40) rfl (A := s.toInt) rfl (by omega) (by omega) (fun M49 W48 => ?_)
      have hG50 := g_wl hG23 W48
      have F51 := FR.wl F32 W48 (show 33 = 1 ∧ 6 ≤ (s.toInt).toNat ∧ (s.toInt).toNat ≤ 11 ∨ 33 = 33 by omega)
      refine to_an (pc := 140) rw_103_140 rfl ?_
      refine s_v (pc := 141) rw_103_141 (dp0 hd (by decide)) (ls0 := [.ref 1]) rfl (Nat.le_of_ble_eq_true rfl) (Nat.le_of_ble_eq_true rfl) rfl (to_rc rfl rfl rfl (g_o hG50 rfl)) rfl ?_
      have j_52 := (CS_f (fun a i z => W_l W48 rfl) (CS_f (tg_34 F22) q3))
      have c_53 : M49.2.1 1 9 = (M.2.1 1 9) := (W_l W48 (F_n F22 (show ¬ (1 = 1 ∧ (9 = 10 ∨ 9 = 11)) by decide) rfl))
      have t_54 : (M49.2.1 1 9).toInt = (M.2.1 1 9).toInt := congrArg Int32.toInt c_53
      refine E_83 hX (dp1 hd (by decide)) hG50 j_52 (by omega) (t := t) (nn := nn) (a := a) (fun M59 hG56 F55 p_57 p_58 => ?_)
      have F60 := FR.c F51 F55 tg_158
      refine to_c (pc := 144) rw_103_144 (x := (1 : Int32)) rfl rfl ?_
      refine s_r1 (pc := 145) rw_103_145 (A := 1) rfl (by decide) ?_
      have k_61 : (1 : Int32).toInt = 1 := rfl
      have z_62 := x_ns_lt (t := t) (nn := nn) (a := a) (by omega) (x_lt_k (t := t) (by omega) (by omega))
      exact h (1 : Int32) M59 hG56 F60 (by decide) (by decide) p_57 (by omega) (fun _ => (fun q9 => ⟨(((F_nl F55 (show ¬ (33 = 1 ∧ 6 ≤ (s.toInt).toNat ∧ (s.toInt).toNat ≤ 9) by omega) rfl)).trans (L_e W48)).trans (by rw [z_45, ← q9.1, x_bit_e (v := v46) rfl]), by rw [q9.2]; omega⟩) (x_nb_n (t := t) (nn := nn) (s := sg) (C := C9) (g := a) (by omega) (b := v46.toInt) (by omega))) (fun i hi => (F_nl F55 (show ¬ (33 = 1 ∧ 6 ≤ i ∧ i ≤ 9) by omega) (L_n W48 (by omega) (F_nl F22 (show ¬ (33 = 1 ∧ (i = 10 ∨ i = 11)) by omega) rfl)))) (fun _ => by omega) (fun _ k9 => by rw [show (M59.2.1 1 9).toInt = (x_ns t nn a) by omega]; exact (p_ndn (by omega)).trans (p_nb (by omega) (by omega))) (fun z => absurd z (by decide))
  · have z_63 : x_kind t nn a = 2 ∧ x_val t nn a = (M.2.1 1 8).toInt := by omega
    clear c_1
    refine to_an (pc := 19) rw_103_19 rfl ?_
    refine to_an (pc := 20) rw_103_20 rfl ?_
    refine tt_gI (pc := 21) rw_103_21 (g_o hG rfl) (v := (M.2.1 1 8)) rfl ?_
    refine s_v (pc := 24) rw_103_24 (dp0 hd (by decide)) (ls0 := [.ref p, .int (M.2.1 1 8)]) rfl (Nat.le_of_ble_eq_true rfl) (Nat.le_of_ble_eq_true rfl) rfl (to_rc rfl rfl rfl (g_o hG (by rcases hp with rfl | rfl <;> rfl))) rfl ?_
    refine to_an (pc := 0) rw_53_0 rfl ?_
    refine s_gR (pc := 1) rw_53_1 hG (by rcases hp with rfl | rfl <;> rfl) (v := (p + 6)) (by rcases hp with rfl | rfl <;> rfl) ?_
    refine to_an (pc := 4) rw_53_4 rfl ?_
    refine tt_gI (pc := 5) rw_53_5 (g_o hG (by rcases hp with rfl | rfl <;> rfl)) (v := (M.2.1 p 3)) rfl ?_
    refine to_in (pc := 8) rw_53_8 rfl ?_
    refine s_s (pc := 9) rw_53_9 (dp1 hd (by decide)) (ls0 := [.ref (p + 6), .int (M.2.1 p 3), .int (M.2.1 1 8), .null]) rfl (Nat.le_of_ble_eq_true rfl) (Nat.le_of_ble_eq_true rfl) rfl (to_rcs rfl rfl) rfl ?_
    refine E_54g hX (dp2 hd (by decide)) hG (by omega) (by omega) (by omega) (g := (p + 6)) (s := (M.2.1 p 3)) (x := (M.2.1 1 8)) (fun r64 M70 hG66 F65 p_67 p_68 p_69 => ?_)
    have F71 := FR.c F0 F65 tg_159
    have z_72 := PLs_w (v := (M.2.1 1 8).toInt) q5 (n := (M.2.1 p 3).toInt) (by omega)
    have z_73 := x_fn_v (s := sg) (r := 6) (v := (M.2.1 1 8).toInt) (w := x_val t nn a) (by omega)
    have z_74 := x_fn_b6 (s := sg) (v := x_val t nn a) q5.1
    refine to_r0 (pc := 12) rw_53_12 ?_
    refine to_is (pc := 27) rw_103_27 (ls2 := [.ref 28, .ref 1, .ref p, .ref 11, .int s, .int (0 : Int32), .int v16, .int r64, .null]) rfl rfl ?_
    refine to_an (pc := 29) rw_103_29 rfl ?_
    refine to_i (pc := 30) rw_103_30 rfl ?_
    refine s_v (pc := 32) rw_103_32 (dp0 hd (by decide)) (ls0 := [.ref p, .int r64]) rfl (Nat.le_of_ble_eq_true rfl) (Nat.le_of_ble_eq_true rfl) rfl (to_rc rfl rfl rfl (g_o hG66 (by rcases hp with rfl | rfl <;> rfl))) rfl ?_
    refine to_in (pc := 0) rw_44_0 rfl ?_
    refine b_ilt (pc := 1) rw_44_1 (A := r64.toInt) rfl (fun h75 => ?_) (fun h75 => ?_)
    · refine to_c (pc := 16) rw_44_16 (x := (0 : Int32)) rfl rfl ?_
      refine s_r1 (pc := 17) rw_44_17 (A := 0) rfl (by decide) ?_
      refine b_ieq_t (pc := 35) rw_103_35 (A := 0) rfl (by decide) ?_
      refine to_an (pc := 61) rw_103_61 rfl ?_
      refine to_an (pc := 62) rw_103_62 rfl ?_
      have c_76 : M70.2.1 1 8 = (M.2.1 1 8) := (F_n F65 (show ¬ (1 < 0) by decide) rfl)
      refine tt_gI (pc := 63) rw_103_63 (g_o hG66 rfl) (v := (M.2.1 1 8)) c_76 ?_
      refine s_v (pc := 66) rw_103_66 (dp0 hd (by decide)) (ls0 := [.ref p, .int (M.2.1 1 8)]) rfl (Nat.le_of_ble_eq_true rfl) (Nat.le_of_ble_eq_true rfl) rfl (to_rc rfl rfl rfl (g_o hG66 (by rcases hp with rfl | rfl <;> rfl))) rfl ?_
      refine to_an (pc := 0) rw_52_0 rfl ?_
      refine s_gR (pc := 1) rw_52_1 hG66 (by rcases hp with rfl | rfl <;> rfl) (v := (p + 1)) (by rcases hp with rfl | rfl <;> rfl) ?_
      refine to_an (pc := 4) rw_52_4 rfl ?_
      have c_77 : M70.2.1 p 2 = (M.2.1 p 2) := (F_n F65 (show ¬ (p < 0) by omega) rfl)
      refine tt_gI (pc := 5) rw_52_5 (g_o hG66 (by rcases hp with rfl | rfl <;> rfl)) (v := (M.2.1 p 2)) c_77 ?_
      refine to_in (pc := 8) rw_52_8 rfl ?_
      refine s_s (pc := 9) rw_52_9 (dp1 hd (by decide)) (ls0 := [.ref (p + 1), .int (M.2.1 p 2), .int (M.2.1 1 8), .null]) rfl (Nat.le_of_ble_eq_true rfl) (Nat.le_of_ble_eq_true rfl) rfl (to_rcs rfl rfl) rfl ?_
      have j_78 := (PLs_f (fun a i z => F_n F65 (show ¬ (a < 0) by omega) rfl) q5)
      refine E_54f hX (dp2 hd (by decide)) hG66 (by omega) (by omega) (by omega) (f := (p + 1)) (s := (M.2.1 p 2)) (x := (M.2.1 1 8)) (fun r79 M85 hG81 F80 p_82 p_83 p_84 => ?_)
      have F86 := FR.c F71 F80 tg_159
      have z_87 := PLs_n (v := (M.2.1 1 8).toInt) j_78 (n := (M.2.1 p 2).toInt) (by omega)
      have z_88 := x_fn_v (s := sg) (r := 1) (v := (M.2.1 1 8).toInt) (w := x_val t nn a) (by omega)
      have z_89 := x_fn_b (s := sg) (v := x_val t nn a) j_78.1
      refine to_r0 (pc := 12) rw_52_12 ?_
      refine to_is (pc := 69) rw_103_69 (ls2 := [.ref 28, .ref 1, .ref p, .ref 11, .int s, .int (0 : Int32), .int v16, .int r64, .int r79]) rfl rfl ?_
      refine to_an (pc := 71) rw_103_71 rfl ?_
      refine to_i (pc := 72) rw_103_72 rfl ?_
      refine s_v (pc := 74) rw_103_74 (dp0 hd (by decide)) (ls0 := [.ref p, .int r79]) rfl (Nat.le_of_ble_eq_true rfl) (Nat.le_of_ble_eq_true rfl) rfl (to_rc rfl rfl rfl (g_o hG81 (by rcases hp with rfl | rfl <;> rfl))) rfl ?_
      refine to_in (pc := 0) rw_43_0 rfl ?_
      refine b_ilt (pc := 1) rw_43_1 (A := r79.toInt) rfl (fun h90 => ?_) (fun h90 => ?_)
      · refine to_c (pc := 16) rw_43_16 (x := (0 : Int32)) rfl rfl ?_
        refine s_r1 (pc := 17) rw_43_17 (A := 0) rfl (by decide) ?_
        refine b_ine_f (pc := 77) rw_103_77 (A := 0) rfl (by decide) ?_
        refine to_an (pc := 80) rw_103_80 rfl ?_
        refine to_c (pc := 81) rw_103_81 (x := (4 : Int32)) rfl rfl ?_
        refine s_v (pc := 82) rw_103_82 (dp0 hd (by decide)) (ls0 := [.ref 1, .int (4 : Int32)]) rfl (Nat.le_of_ble_eq_true rfl) (Nat.le_of_ble_eq_true rfl) rfl (to_rc rfl rfl rfl (g_o hG81 rfl)) rfl ?_
        refine to_an (pc := 0) rw_84_0 rfl ?_
        refine to_in (pc := 1) rw_84_1 rfl ?_
        refine s_pI (pc := 2) rw_84_2 hG81 rfl (fun M92 W91 => ?_)
        have hG93 := g_wf hG81 W91 rfl rfl (by decide)
        have F94 := FR.w F86 W91 (show 1 = 1 ∧ 6 ≤ 10 ∧ 10 ≤ 11 ∨ 1 = 33 by decide)
        refine to_an (pc := 5) rw_84_5 rfl ?_
        refine to_an (pc := 6) rw_84_6 rfl ?_
        have c_95 : M92.2.1 1 9 = (M.2.1 1 9) := (W_n W91 (by decide) (F_n F80 (show ¬ (1 < 0) by decide) (F_n F65 (show ¬ (1 < 0) by decide) rfl)))
        refine tt_gI (pc := 7) rw_84_7 (g_o hG93 rfl) (v := (M.2.1 1 9)) c_95 ?_
        refine s_pI (pc := 10) rw_84_10 hG93 rfl (fun M97 W96 => ?_)
        have hG98 := g_wf hG93 W96 rfl rfl (by decide)
        have F99 := FR.w F94 W96 (show 1 = 1 ∧ 6 ≤ 11 ∧ 11 ≤ 11 ∨ 1 = 33 by decide)
        refine to_c (pc := 13) rw_84_13 (x := (0 : Int32)) rfl rfl ?_
        refine s_r1 (pc := 14) rw_84_14 (A := 0) rfl (by decide) ?_
        refine s_r1 (pc := 85) rw_103_85 (A := 0) rfl (by decide) ?_
        have k_100 : (0 : Int32).toInt = 0 := rfl
        have c_101 : M97.2.1 1 9 = (M.2.1 1 9) := (W_n W96 (by decide) c_95)
        have t_102 : (M97.2.1 1 9).toInt = (M.2.1 1 9).toInt := congrArg Int32.toInt c_101
        have j_103 := (CS_f (fun a i z => W_n W96 (tg_32 a i z) rfl) (CS_f (fun a i z => W_n W91 (tg_33 a i z) rfl) (CS_f (tg_28 F80) (CS_f (tg_28 F65) q3))))
        have c_104 : M97.2.1 1 10 = (4 : Int32) := (W_n W96 (by decide) (W_e W91))
        have k_105 : (4 : Int32).toInt = 4 := rfl
        have t_106 : (M97.2.1 1 10).toInt = (4 : Int32).toInt := congrArg Int32.toInt c_104
        have c_107 : M97.2.1 1 11 = (M.2.1 1 9) := (W_e W96)
        have t_108 : (M97.2.1 1 11).toInt = (M.2.1 1 9).toInt := congrArg Int32.toInt c_107
        exact h (0 : Int32) M97 hG98 F99 (by decide) (by decide) j_103 (by omega) (fun z => absurd z (by decide)) (fun i hi => (W_j W96 (W_j W91 (F_nl F80 (show ¬ (33 < 0) by decide) (F_nl F65 (show ¬ (33 < 0) by decide) rfl))))) (fun z => absurd z (by decide)) (fun z => absurd z (by decide)) (fun _ k9 => winl (by omega) (by omega) (p_ndx (by omega) (by omega) (by omega)))
      · refine to_in (pc := 4) rw_43_4 rfl ?_
        refine to_an (pc := 5) rw_43_5 rfl ?_
        have c_109 : M85.2.1 p 2 = (M.2.1 p 2) := (F_n F80 (show ¬ (p < 0) by omega) c_77)
        refine tt_gI (pc := 6) rw_43_6 (g_o hG81 (by rcases hp with rfl | rfl <;> rfl)) (v := (M.2.1 p 2)) c_109 ?_
        refine b_cge (pc := 9) rw_43_9 (A := r79.toInt) (B := (M.2.1 p 2).toInt) rfl rfl (fun h110 => ?_) (fun h110 => ?_)
        · refine to_c (pc := 16) rw_43_16 (x := (0 : Int32)) rfl rfl ?_
          refine s_r1 (pc := 17) rw_43_17 (A := 0) rfl (by decide) ?_
          refine b_ine_f (pc := 77) rw_103_77 (A := 0) rfl (by decide) ?_
          refine to_an (pc := 80) rw_103_80 rfl ?_
          refine to_c (pc := 81) rw_103_81 (x := (4 : Int32)) rfl rfl ?_
          refine s_v (pc := 82) rw_103_82 (dp0 hd (by decide)) (ls0 := [.ref 1, .int (4 : Int32)]) rfl (Nat.le_of_ble_eq_true rfl) (Nat.le_of_ble_eq_true rfl) rfl (to_rc rfl rfl rfl (g_o hG81 rfl)) rfl ?_
          refine to_an (pc := 0) rw_84_0 rfl ?_
          refine to_in (pc := 1) rw_84_1 rfl ?_
          refine s_pI (pc := 2) rw_84_2 hG81 rfl (fun M112 W111 => ?_)
          have hG113 := g_wf hG81 W111 rfl rfl (by decide)
          have F114 := FR.w F86 W111 (show 1 = 1 ∧ 6 ≤ 10 ∧ 10 ≤ 11 ∨ 1 = 33 by decide)
          refine to_an (pc := 5) rw_84_5 rfl ?_
          refine to_an (pc := 6) rw_84_6 rfl ?_
          have c_115 : M112.2.1 1 9 = (M.2.1 1 9) := (W_n W111 (by decide) (F_n F80 (show ¬ (1 < 0) by decide) (F_n F65 (show ¬ (1 < 0) by decide) rfl)))
          refine tt_gI (pc := 7) rw_84_7 (g_o hG113 rfl) (v := (M.2.1 1 9)) c_115 ?_
          refine s_pI (pc := 10) rw_84_10 hG113 rfl (fun M117 W116 => ?_)
          have hG118 := g_wf hG113 W116 rfl rfl (by decide)
          have F119 := FR.w F114 W116 (show 1 = 1 ∧ 6 ≤ 11 ∧ 11 ≤ 11 ∨ 1 = 33 by decide)
          refine to_c (pc := 13) rw_84_13 (x := (0 : Int32)) rfl rfl ?_
          refine s_r1 (pc := 14) rw_84_14 (A := 0) rfl (by decide) ?_
          refine s_r1 (pc := 85) rw_103_85 (A := 0) rfl (by decide) ?_
          have k_120 : (0 : Int32).toInt = 0 := rfl
          have c_121 : M117.2.1 1 9 = (M.2.1 1 9) := (W_n W116 (by decide) c_115)
          have t_122 : (M117.2.1 1 9).toInt = (M.2.1 1 9).toInt := congrArg Int32.toInt c_121
          have j_123 := (CS_f (fun a i z => W_n W116 (tg_32 a i z) rfl) (CS_f (fun a i z => W_n W111 (tg_33 a i z) rfl) (CS_f (tg_28 F80) (CS_f (tg_28 F65) q3))))
          have c_124 : M117.2.1 1 10 = (4 : Int32) := (W_n W116 (by decide) (W_e W111))
          have k_125 : (4 : Int32).toInt = 4 := rfl
          have t_126 : (M117.2.1 1 10).toInt = (4 : Int32).toInt := congrArg Int32.toInt c_124
          have c_127 : M117.2.1 1 11 = (M.2.1 1 9) := (W_e W116)
          have t_128 : (M117.2.1 1 11).toInt = (M.2.1 1 9).toInt := congrArg Int32.toInt c_127
          exact h (0 : Int32) M117 hG118 F119 (by decide) (by decide) j_123 (by omega) (fun z => absurd z (by decide)) (fun i hi => (W_j W116 (W_j W111 (F_nl F80 (show ¬ (33 < 0) by decide) (F_nl F65 (show ¬ (33 < 0) by decide) rfl))))) (fun z => absurd z (by decide)) (fun z => absurd z (by decide)) (fun _ k9 => winl (by omega) (by omega) (p_ndx (by omega) (by omega) (by omega)))
        · refine to_c (pc := 12) rw_43_12 (x := (1 : Int32)) rfl rfl ?_
          refine to_go (pc := 13) rw_43_13 ?_
          refine s_r1 (pc := 17) rw_43_17 (A := 1) rfl (by decide) ?_
          refine b_ine_t (pc := 77) rw_103_77 (A := 1) rfl (by decide) ?_
          refine to_an (pc := 86) rw_103_86 rfl ?_
          refine s_gR (pc := 87) rw_103_87 hG81 (by rcases hp with rfl | rfl <;> rfl) (v := (p + 3)) (by rcases hp with rfl | rfl <;> rfl) ?_
          refine to_i (pc := 90) rw_103_90 rfl ?_
          refine s_ial (pc := 92) rw_103_92 hG81 (by rcases hp with rfl | rfl <;> rfl) (n := 8) (by rcases hp with rfl | rfl <;> rfl) (by rcases hp with rfl | rfl <;> rfl) (A := r79.toInt) rfl (by omega) (by omega) (lo := 0) (hi := 59) (by rcases hp with rfl | rfl <;> rfl) (by rcases hp with rfl | rfl <;> rfl) (fun v129 w_130 _ _ => ?_)
          have j_131 := (PLs_f (fun a i z => F_n F80 (show ¬ (a < 0) by omega) rfl) j_78)
          have z_132 := PLs_r j_131 3 (by decide) (by decide) (k := r79.toInt) (by omega) (by omega) w_130
          have z_133 := x_row_v (s := sg) (r := 3) (x := r79.toInt) (y := x_fn sg 1 (x_val t nn a)) (by omega)
          have z_134 := j_131.1.2.2.2.2.2.2.2 (x_fn sg 1 (x_val t nn a)) (by omega) (by omega)
          refine to_is (pc := 93) rw_103_93 (ls2 := [.ref 28, .ref 1, .ref p, .ref 11, .int s, .int v129, .int v16, .int r64, .int r79]) rfl rfl ?_
          refine to_an (pc := 95) rw_103_95 rfl ?_
          refine to_i (pc := 96) rw_103_96 rfl ?_
          refine s_v (pc := 98) rw_103_98 (dp0 hd (by decide)) (ls0 := [.ref p, .int r79]) rfl (Nat.le_of_ble_eq_true rfl) (Nat.le_of_ble_eq_true rfl) rfl (to_rc rfl rfl rfl (g_o hG81 (by rcases hp with rfl | rfl <;> rfl))) rfl ?_
          refine to_an (pc := 0) rw_47_0 rfl ?_
          refine s_gR (pc := 1) rw_47_1 hG81 (by rcases hp with rfl | rfl <;> rfl) (v := (p + 4)) (by rcases hp with rfl | rfl <;> rfl) ?_
          refine to_in (pc := 4) rw_47_4 rfl ?_
          refine s_ial (pc := 5) rw_47_5 hG81 (by rcases hp with rfl | rfl <;> rfl) (n := 8) (by rcases hp with rfl | rfl <;> rfl) (by rcases hp with rfl | rfl <;> rfl) (A := r79.toInt) rfl (by omega) (by omega) (lo := 0) (hi := 63) (by rcases hp with rfl | rfl <;> rfl) (by rcases hp with rfl | rfl <;> rfl) (fun v135 w_136 _ _ => ?_)
          have z_137 := PLs_r j_131 4 (by decide) (by decide) (k := r79.toInt) (by omega) (by omega) w_136
          have z_138 := x_row_v (s := sg) (r := 4) (x := r79.toInt) (y := x_fn sg 1 (x_val t nn a)) (by omega)
          refine to_an (pc := 6) rw_47_6 rfl ?_
          refine s_gR (pc := 7) rw_47_7 hG81 (by rcases hp with rfl | rfl <;> rfl) (v := (p + 3)) (by rcases hp with rfl | rfl <;> rfl) ?_
          refine to_in (pc := 10) rw_47_10 rfl ?_
          refine s_ialk (pc := 11) rw_47_11 hG81 (by rcases hp with rfl | rfl <;> rfl) (n := 8) (by rcases hp with rfl | rfl <;> rfl) (by rcases hp with rfl | rfl <;> rfl) (A := r79.toInt) rfl (by omega) (by omega) (v := v129) w_130 ?_
          refine s_sub (pc := 12) rw_47_12 (A := v135.toInt) (B := v129.toInt) rfl rfl (by omega) (fun v141 e142 => ?_)
          refine to_c (pc := 13) rw_47_13 (x := (1 : Int32)) rfl rfl ?_
          refine s_add (pc := 14) rw_47_14 (A := v141.toInt) (B := 1) rfl rfl (by omega) (fun v143 e144 => ?_)
          refine to_r0 (pc := 15) rw_47_15 ?_
          refine to_c (pc := 101) rw_103_101 (x := (1 : Int32)) rfl rfl ?_
          refine s_sub (pc := 102) rw_103_102 (A := v143.toInt) (B := 1) rfl rfl (by omega) (fun v145 e146 => ?_)
          refine to_is (pc := 103) rw_103_103 (ls2 := [.ref 28, .ref 1, .ref p, .ref 11, .int s, .int v129, .int v145, .int r64, .int r79]) rfl rfl ?_
          refine to_an (pc := 105) rw_103_105 rfl ?_
          refine s_v (pc := 106) rw_103_106 (dp0 hd (by decide)) (ls0 := [.ref 1]) rfl (Nat.le_of_ble_eq_true rfl) (Nat.le_of_ble_eq_true rfl) rfl (to_rc rfl rfl rfl (g_o hG81 rfl)) rfl ?_
          have j_147 := (CS_f (tg_28 F80) (CS_f (tg_28 F65) q3))
          have c_148 : M85.2.1 1 9 = (M.2.1 1 9) := (F_n F80 (show ¬ (1 < 0) by decide) (F_n F65 (show ¬ (1 < 0) by decide) rfl))
          have t_149 : (M85.2.1 1 9).toInt = (M.2.1 1 9).toInt := congrArg Int32.toInt c_148
          refine E_83 hX (dp1 hd (by decide)) hG81 j_147 (by omega) (t := t) (nn := nn) (a := a) (fun M154 hG151 F150 p_152 p_153 => ?_)
          have F155 := FR.c F86 F150 tg_158
          refine to_an (pc := 109) rw_103_109 rfl ?_
          refine to_c (pc := 110) rw_103_110 (x := (0 : Int32)) rfl rfl ?_
          refine to_i (pc := 111) rw_103_111 rfl ?_
          refine s_v (pc := 113) rw_103_113 (dp0 hd (by decide)) (ls0 := [.ref 1, .int (0 : Int32), .int v145]) rfl (Nat.le_of_ble_eq_true rfl) (Nat.le_of_ble_eq_true rfl) rfl (to_rc rfl rfl rfl (g_o hG151 rfl)) rfl ?_
          have k_156 : (0 : Int32).toInt = 0 := rfl
          refine E_88f hX (dp1 hd (by decide)) hG151 p_152 (by omega) (l := (0 : Int32)) (m := v145) (t := t) (nn := nn) (a := (x_ns t nn a)) (fun r157 M167 hG159 F158 p_160 p_161 p_162 p_163 p_164 p_165 p_166 => ?_)
          have F168 := FR.c F155 F158 tg_157
          rcases (show r157.toInt = 0 ∨ r157.toInt = 1 by omega) with h169 | h169
          · skip
            have p_170 := p_163 (by omega)
            have p_171 := p_164 (by omega)
            clear p_162 p_163 p_164
            have z_172 := x_val_b (t := t) (nn := nn) (a := (x_ns t nn a))
            refine b_ine_f (pc := 116) rw_103_116 (A := r157.toInt) rfl (by omega) ?_
            refine to_c (pc := 119) rw_103_119 (x := (0 : Int32)) rfl rfl ?_
            refine s_r1 (pc := 120) rw_103_120 (A := 0) rfl (by decide) ?_
            have c_173 : M167.2.1 1 9 = (M154.2.1 1 9) := (F_n F158 (show ¬ (1 = 1 ∧ (9 = 10 ∨ 9 = 11)) by decide) rfl)
            have t_174 : (M167.2.1 1 9).toInt = (M154.2.1 1 9).toInt := congrArg Int32.toInt c_173
            have j_175 := (CS_f (tg_34 F158) p_152)
            exact h (0 : Int32) M167 hG159 F168 (by decide) (by decide) j_175 (by omega) (fun z => absurd z (by decide)) (fun i hi => (F_nl F158 (show ¬ (33 = 1 ∧ (i = 10 ∨ i = 11)) by omega) (F_nl F150 (show ¬ (33 = 1 ∧ 6 ≤ i ∧ i ≤ 9) by omega) (F_nl F80 (show ¬ (33 < 0) by decide) (F_nl F65 (show ¬ (33 < 0) by decide) rfl))))) (fun z => absurd z (by decide)) (fun z => absurd z (by decide)) (fun _ k9 => if g9 : x_kind t nn (x_ns t nn a) = 3 then winl (by omega) (by omega) ((p_ndf (by omega) (by omega) (by omega)).trans (p_nb2 g9 (by omega))) else winl (by omega) (by omega) ((p_ndf (by omega) (by omega) (by omega)).trans (p_nb1 g9)))
          · skip
            have p_176 := p_162 (by omega)
            clear p_162 p_163 p_164
            have c_177 : M167.2.1 1 8 = (M154.2.1 1 8) := (F_n F158 (show ¬ (1 = 1 ∧ (8 = 10 ∨ 8 = 11)) by decide) rfl)
            have z_178 := x_val_b (t := t) (nn := nn) (a := (x_ns t nn a)) (by omega)
            refine b_ine_t (pc := 116) rw_103_116 (A := r157.toInt) rfl (by omega) ?_
            refine to_an (pc := 121) rw_103_121 rfl ?_
            refine s_gR (pc := 122) rw_103_122 hG159 rfl (v := 33) rfl ?_
            refine to_i (pc := 125) rw_103_125 rfl ?_
            refine to_dup2 (pc := 127) rw_103_127 ?_
            refine s_lalE (pc := 128) rw_103_128 hG159 rfl (n := 40) rfl (A := s.toInt) rfl (by omega) (by omega) (fun l179 w_180 => ?_)
            have z_181 : l179 = M.2.2.1 33 (s.toInt).toNat := (w_180).symm.trans ((F_nl F158 (show ¬ (33 = 1 ∧ ((s.toInt).toNat = 10 ∨ (s.toInt).toNat = 11)) by omega) (F_nl F150 (show ¬ (33 = 1 ∧ 6 ≤ (s.toInt).toNat ∧ (s.toInt).toNat ≤ 9) by omega) (F_nl F80 (show ¬ (33 < 0) by decide) (F_nl F65 (show ¬ (33 < 0) by decide) rfl)))))
            refine to_cl (pc := 129) rw_103_129 rfl (x := (1 : Int64)) rfl ?_
            refine to_i (pc := 130) rw_103_130 rfl ?_
            refine to_an (pc := 132) rw_103_132 rfl ?_
            refine tt_gI (pc := 133) rw_103_133 (g_o hG159 rfl) (v := (M154.2.1 1 8)) c_177 ?_
            refine s_add (pc := 136) rw_103_136 (A := v129.toInt) (B := (M154.2.1 1 8).toInt) rfl rfl (by omega) (fun v182 e183 => ?_)
            refine to_2s (pc := 137) rw_103_137 (v := ((1 : Int64) <<< (v182.toInt64 &&& 63))) rfl ?_
            refine to_2l (pc := 138) rw_103_138 (v := (l179 ||| ((1 : Int64) <<< (v182.toInt64 &&& 63)))) rfl ?_
            refine s_las (pc := 139) rw_103_139 hG159 rfl (n := 40) rfl (A := s.toInt) rfl (by omega) (by omega) (fun M185 W184 => ?_)
            have hG186 := g_wl hG159 W184
            have F187 := FR.wl F168 W184 (show 33 = 1 ∧ 6 ≤ (s.toInt).toNat ∧ (s.toInt).toNat ≤ 11 ∨ 33 = 33 by omega)
            refine to_an (pc := 140) rw_103_140 rfl ?_
            refine s_v (pc := 141) rw_103_141 (dp0 hd (by decide)) (ls0 := [.ref 1]) rfl (Nat.le_of_ble_eq_true rfl) (Nat.le_of_ble_eq_true rfl) rfl (to_rc rfl rfl rfl (g_o hG186 rfl)) rfl ?_
            have j_188 := (CS_f (fun a i z => W_l W184 rfl) (CS_f (tg_34 F158) p_152))
            have c_189 : M185.2.1 1 9 = (M154.2.1 1 9) := (W_l W184 (F_n F158 (show ¬ (1 = 1 ∧ (9 = 10 ∨ 9 = 11)) by decide) rfl))
            have t_190 : (M185.2.1 1 9).toInt = (M154.2.1 1 9).toInt := congrArg Int32.toInt c_189
            refine E_83 hX (dp1 hd (by decide)) hG186 j_188 (by omega) (t := t) (nn := nn) (a := (x_ns t nn a)) (fun M195 hG192 F191 p_193 p_194 => ?_)
            have F196 := FR.c F187 F191 tg_158
            refine to_c (pc := 144) rw_103_144 (x := (1 : Int32)) rfl rfl ?_
            refine s_r1 (pc := 145) rw_103_145 (A := 1) rfl (by decide) ?_
            have k_197 : (1 : Int32).toInt = 1 := rfl
            have z_198 := x_ns_lt (t := t) (nn := nn) (a := a) (by omega) (x_lt_k (t := t) (by omega) (by omega))
            have z_199 := x_ns_b (t := t) (n := nn) (a := (x_ns t nn a)) (by omega) (by omega)
            exact h (1 : Int32) M195 hG192 F196 (by decide) (by decide) p_193 (by omega) (fun _ => (fun q9 => ⟨(((F_nl F191 (show ¬ (33 = 1 ∧ 6 ≤ (s.toInt).toNat ∧ (s.toInt).toNat ≤ 9) by omega) rfl)).trans (L_e W184)).trans (by rw [z_181, ← q9.1, x_bit_e (v := v182) rfl]), by rw [q9.2]; omega⟩) (x_nb_f (t := t) (nn := nn) (s := sg) (C := C9) (g := a) (by omega) (by omega) (b := v182.toInt) (by omega))) (fun i hi => (F_nl F191 (show ¬ (33 = 1 ∧ 6 ≤ i ∧ i ≤ 9) by omega) (L_n W184 (by omega) (F_nl F158 (show ¬ (33 = 1 ∧ (i = 10 ∨ i = 11)) by omega) (F_nl F150 (show ¬ (33 = 1 ∧ 6 ≤ i ∧ i ≤ 9) by omega) (F_nl F80 (show ¬ (33 < 0) by decide) (F_nl F65 (show ¬ (33 < 0) by decide) rfl))))))) (fun _ => by omega) (fun _ k9 => by rw [show (M195.2.1 1 9).toInt = (x_ns t nn (x_ns t nn a)) by omega]; exact (p_ndf (by omega) (by omega) (by omega)).trans (p_nb (by omega) (by omega))) (fun z => absurd z (by decide))
    · refine to_in (pc := 4) rw_44_4 rfl ?_
      refine to_an (pc := 5) rw_44_5 rfl ?_
      have c_200 : M70.2.1 p 3 = (M.2.1 p 3) := (F_n F65 (show ¬ (p < 0) by omega) rfl)
      refine tt_gI (pc := 6) rw_44_6 (g_o hG66 (by rcases hp with rfl | rfl <;> rfl)) (v := (M.2.1 p 3)) c_200 ?_
      refine b_cge (pc := 9) rw_44_9 (A := r64.toInt) (B := (M.2.1 p 3).toInt) rfl rfl (fun h201 => ?_) (fun h201 => ?_)
      · refine to_c (pc := 16) rw_44_16 (x := (0 : Int32)) rfl rfl ?_
        refine s_r1 (pc := 17) rw_44_17 (A := 0) rfl (by decide) ?_
        refine b_ieq_t (pc := 35) rw_103_35 (A := 0) rfl (by decide) ?_
        refine to_an (pc := 61) rw_103_61 rfl ?_
        refine to_an (pc := 62) rw_103_62 rfl ?_
        have c_202 : M70.2.1 1 8 = (M.2.1 1 8) := (F_n F65 (show ¬ (1 < 0) by decide) rfl)
        refine tt_gI (pc := 63) rw_103_63 (g_o hG66 rfl) (v := (M.2.1 1 8)) c_202 ?_
        refine s_v (pc := 66) rw_103_66 (dp0 hd (by decide)) (ls0 := [.ref p, .int (M.2.1 1 8)]) rfl (Nat.le_of_ble_eq_true rfl) (Nat.le_of_ble_eq_true rfl) rfl (to_rc rfl rfl rfl (g_o hG66 (by rcases hp with rfl | rfl <;> rfl))) rfl ?_
        refine to_an (pc := 0) rw_52_0 rfl ?_
        refine s_gR (pc := 1) rw_52_1 hG66 (by rcases hp with rfl | rfl <;> rfl) (v := (p + 1)) (by rcases hp with rfl | rfl <;> rfl) ?_
        refine to_an (pc := 4) rw_52_4 rfl ?_
        have c_203 : M70.2.1 p 2 = (M.2.1 p 2) := (F_n F65 (show ¬ (p < 0) by omega) rfl)
        refine tt_gI (pc := 5) rw_52_5 (g_o hG66 (by rcases hp with rfl | rfl <;> rfl)) (v := (M.2.1 p 2)) c_203 ?_
        refine to_in (pc := 8) rw_52_8 rfl ?_
        refine s_s (pc := 9) rw_52_9 (dp1 hd (by decide)) (ls0 := [.ref (p + 1), .int (M.2.1 p 2), .int (M.2.1 1 8), .null]) rfl (Nat.le_of_ble_eq_true rfl) (Nat.le_of_ble_eq_true rfl) rfl (to_rcs rfl rfl) rfl ?_
        have j_204 := (PLs_f (fun a i z => F_n F65 (show ¬ (a < 0) by omega) rfl) q5)
        refine E_54f hX (dp2 hd (by decide)) hG66 (by omega) (by omega) (by omega) (f := (p + 1)) (s := (M.2.1 p 2)) (x := (M.2.1 1 8)) (fun r205 M211 hG207 F206 p_208 p_209 p_210 => ?_)
        have F212 := FR.c F71 F206 tg_159
        have z_213 := PLs_n (v := (M.2.1 1 8).toInt) j_204 (n := (M.2.1 p 2).toInt) (by omega)
        have z_214 := x_fn_v (s := sg) (r := 1) (v := (M.2.1 1 8).toInt) (w := x_val t nn a) (by omega)
        have z_215 := x_fn_b (s := sg) (v := x_val t nn a) j_204.1
        refine to_r0 (pc := 12) rw_52_12 ?_
        refine to_is (pc := 69) rw_103_69 (ls2 := [.ref 28, .ref 1, .ref p, .ref 11, .int s, .int (0 : Int32), .int v16, .int r64, .int r205]) rfl rfl ?_
        refine to_an (pc := 71) rw_103_71 rfl ?_
        refine to_i (pc := 72) rw_103_72 rfl ?_
        refine s_v (pc := 74) rw_103_74 (dp0 hd (by decide)) (ls0 := [.ref p, .int r205]) rfl (Nat.le_of_ble_eq_true rfl) (Nat.le_of_ble_eq_true rfl) rfl (to_rc rfl rfl rfl (g_o hG207 (by rcases hp with rfl | rfl <;> rfl))) rfl ?_
        refine to_in (pc := 0) rw_43_0 rfl ?_
        refine b_ilt (pc := 1) rw_43_1 (A := r205.toInt) rfl (fun h216 => ?_) (fun h216 => ?_)
        · refine to_c (pc := 16) rw_43_16 (x := (0 : Int32)) rfl rfl ?_
          refine s_r1 (pc := 17) rw_43_17 (A := 0) rfl (by decide) ?_
          refine b_ine_f (pc := 77) rw_103_77 (A := 0) rfl (by decide) ?_
          refine to_an (pc := 80) rw_103_80 rfl ?_
          refine to_c (pc := 81) rw_103_81 (x := (4 : Int32)) rfl rfl ?_
          refine s_v (pc := 82) rw_103_82 (dp0 hd (by decide)) (ls0 := [.ref 1, .int (4 : Int32)]) rfl (Nat.le_of_ble_eq_true rfl) (Nat.le_of_ble_eq_true rfl) rfl (to_rc rfl rfl rfl (g_o hG207 rfl)) rfl ?_
          refine to_an (pc := 0) rw_84_0 rfl ?_
          refine to_in (pc := 1) rw_84_1 rfl ?_
          refine s_pI (pc := 2) rw_84_2 hG207 rfl (fun M218 W217 => ?_)
          have hG219 := g_wf hG207 W217 rfl rfl (by decide)
          have F220 := FR.w F212 W217 (show 1 = 1 ∧ 6 ≤ 10 ∧ 10 ≤ 11 ∨ 1 = 33 by decide)
          refine to_an (pc := 5) rw_84_5 rfl ?_
          refine to_an (pc := 6) rw_84_6 rfl ?_
          have c_221 : M218.2.1 1 9 = (M.2.1 1 9) := (W_n W217 (by decide) (F_n F206 (show ¬ (1 < 0) by decide) (F_n F65 (show ¬ (1 < 0) by decide) rfl)))
          refine tt_gI (pc := 7) rw_84_7 (g_o hG219 rfl) (v := (M.2.1 1 9)) c_221 ?_
          refine s_pI (pc := 10) rw_84_10 hG219 rfl (fun M223 W222 => ?_)
          have hG224 := g_wf hG219 W222 rfl rfl (by decide)
          have F225 := FR.w F220 W222 (show 1 = 1 ∧ 6 ≤ 11 ∧ 11 ≤ 11 ∨ 1 = 33 by decide)
          refine to_c (pc := 13) rw_84_13 (x := (0 : Int32)) rfl rfl ?_
          refine s_r1 (pc := 14) rw_84_14 (A := 0) rfl (by decide) ?_
          refine s_r1 (pc := 85) rw_103_85 (A := 0) rfl (by decide) ?_
          have k_226 : (0 : Int32).toInt = 0 := rfl
          have c_227 : M223.2.1 1 9 = (M.2.1 1 9) := (W_n W222 (by decide) c_221)
          have t_228 : (M223.2.1 1 9).toInt = (M.2.1 1 9).toInt := congrArg Int32.toInt c_227
          have j_229 := (CS_f (fun a i z => W_n W222 (tg_32 a i z) rfl) (CS_f (fun a i z => W_n W217 (tg_33 a i z) rfl) (CS_f (tg_28 F206) (CS_f (tg_28 F65) q3))))
          have c_230 : M223.2.1 1 10 = (4 : Int32) := (W_n W222 (by decide) (W_e W217))
          have k_231 : (4 : Int32).toInt = 4 := rfl
          have t_232 : (M223.2.1 1 10).toInt = (4 : Int32).toInt := congrArg Int32.toInt c_230
          have c_233 : M223.2.1 1 11 = (M.2.1 1 9) := (W_e W222)
          have t_234 : (M223.2.1 1 11).toInt = (M.2.1 1 9).toInt := congrArg Int32.toInt c_233
          exact h (0 : Int32) M223 hG224 F225 (by decide) (by decide) j_229 (by omega) (fun z => absurd z (by decide)) (fun i hi => (W_j W222 (W_j W217 (F_nl F206 (show ¬ (33 < 0) by decide) (F_nl F65 (show ¬ (33 < 0) by decide) rfl))))) (fun z => absurd z (by decide)) (fun z => absurd z (by decide)) (fun _ k9 => winl (by omega) (by omega) (p_ndx (by omega) (by omega) (by omega)))
        · refine to_in (pc := 4) rw_43_4 rfl ?_
          refine to_an (pc := 5) rw_43_5 rfl ?_
          have c_235 : M211.2.1 p 2 = (M.2.1 p 2) := (F_n F206 (show ¬ (p < 0) by omega) c_203)
          refine tt_gI (pc := 6) rw_43_6 (g_o hG207 (by rcases hp with rfl | rfl <;> rfl)) (v := (M.2.1 p 2)) c_235 ?_
          refine b_cge (pc := 9) rw_43_9 (A := r205.toInt) (B := (M.2.1 p 2).toInt) rfl rfl (fun h236 => ?_) (fun h236 => ?_)
          · refine to_c (pc := 16) rw_43_16 (x := (0 : Int32)) rfl rfl ?_
            refine s_r1 (pc := 17) rw_43_17 (A := 0) rfl (by decide) ?_
            refine b_ine_f (pc := 77) rw_103_77 (A := 0) rfl (by decide) ?_
            refine to_an (pc := 80) rw_103_80 rfl ?_
            refine to_c (pc := 81) rw_103_81 (x := (4 : Int32)) rfl rfl ?_
            refine s_v (pc := 82) rw_103_82 (dp0 hd (by decide)) (ls0 := [.ref 1, .int (4 : Int32)]) rfl (Nat.le_of_ble_eq_true rfl) (Nat.le_of_ble_eq_true rfl) rfl (to_rc rfl rfl rfl (g_o hG207 rfl)) rfl ?_
            refine to_an (pc := 0) rw_84_0 rfl ?_
            refine to_in (pc := 1) rw_84_1 rfl ?_
            refine s_pI (pc := 2) rw_84_2 hG207 rfl (fun M238 W237 => ?_)
            have hG239 := g_wf hG207 W237 rfl rfl (by decide)
            have F240 := FR.w F212 W237 (show 1 = 1 ∧ 6 ≤ 10 ∧ 10 ≤ 11 ∨ 1 = 33 by decide)
            refine to_an (pc := 5) rw_84_5 rfl ?_
            refine to_an (pc := 6) rw_84_6 rfl ?_
            have c_241 : M238.2.1 1 9 = (M.2.1 1 9) := (W_n W237 (by decide) (F_n F206 (show ¬ (1 < 0) by decide) (F_n F65 (show ¬ (1 < 0) by decide) rfl)))
            refine tt_gI (pc := 7) rw_84_7 (g_o hG239 rfl) (v := (M.2.1 1 9)) c_241 ?_
            refine s_pI (pc := 10) rw_84_10 hG239 rfl (fun M243 W242 => ?_)
            have hG244 := g_wf hG239 W242 rfl rfl (by decide)
            have F245 := FR.w F240 W242 (show 1 = 1 ∧ 6 ≤ 11 ∧ 11 ≤ 11 ∨ 1 = 33 by decide)
            refine to_c (pc := 13) rw_84_13 (x := (0 : Int32)) rfl rfl ?_
            refine s_r1 (pc := 14) rw_84_14 (A := 0) rfl (by decide) ?_
            refine s_r1 (pc := 85) rw_103_85 (A := 0) rfl (by decide) ?_
            have k_246 : (0 : Int32).toInt = 0 := rfl
            have c_247 : M243.2.1 1 9 = (M.2.1 1 9) := (W_n W242 (by decide) c_241)
            have t_248 : (M243.2.1 1 9).toInt = (M.2.1 1 9).toInt := congrArg Int32.toInt c_247
            have j_249 := (CS_f (fun a i z => W_n W242 (tg_32 a i z) rfl) (CS_f (fun a i z => W_n W237 (tg_33 a i z) rfl) (CS_f (tg_28 F206) (CS_f (tg_28 F65) q3))))
            have c_250 : M243.2.1 1 10 = (4 : Int32) := (W_n W242 (by decide) (W_e W237))
            have k_251 : (4 : Int32).toInt = 4 := rfl
            have t_252 : (M243.2.1 1 10).toInt = (4 : Int32).toInt := congrArg Int32.toInt c_250
            have c_253 : M243.2.1 1 11 = (M.2.1 1 9) := (W_e W242)
            have t_254 : (M243.2.1 1 11).toInt = (M.2.1 1 9).toInt := congrArg Int32.toInt c_253
            exact h (0 : Int32) M243 hG244 F245 (by decide) (by decide) j_249 (by omega) (fun z => absurd z (by decide)) (fun i hi => (W_j W242 (W_j W237 (F_nl F206 (show ¬ (33 < 0) by decide) (F_nl F65 (show ¬ (33 < 0) by decide) rfl))))) (fun z => absurd z (by decide)) (fun z => absurd z (by decide)) (fun _ k9 => winl (by omega) (by omega) (p_ndx (by omega) (by omega) (by omega)))
          · refine to_c (pc := 12) rw_43_12 (x := (1 : Int32)) rfl rfl ?_
            refine to_go (pc := 13) rw_43_13 ?_
            refine s_r1 (pc := 17) rw_43_17 (A := 1) rfl (by decide) ?_
            refine b_ine_t (pc := 77) rw_103_77 (A := 1) rfl (by decide) ?_
            refine to_an (pc := 86) rw_103_86 rfl ?_
            refine s_gR (pc := 87) rw_103_87 hG207 (by rcases hp with rfl | rfl <;> rfl) (v := (p + 3)) (by rcases hp with rfl | rfl <;> rfl) ?_
            refine to_i (pc := 90) rw_103_90 rfl ?_
            refine s_ial (pc := 92) rw_103_92 hG207 (by rcases hp with rfl | rfl <;> rfl) (n := 8) (by rcases hp with rfl | rfl <;> rfl) (by rcases hp with rfl | rfl <;> rfl) (A := r205.toInt) rfl (by omega) (by omega) (lo := 0) (hi := 59) (by rcases hp with rfl | rfl <;> rfl) (by rcases hp with rfl | rfl <;> rfl) (fun v255 w_256 _ _ => ?_)
            have j_257 := (PLs_f (fun a i z => F_n F206 (show ¬ (a < 0) by omega) rfl) j_204)
            have z_258 := PLs_r j_257 3 (by decide) (by decide) (k := r205.toInt) (by omega) (by omega) w_256
            have z_259 := x_row_v (s := sg) (r := 3) (x := r205.toInt) (y := x_fn sg 1 (x_val t nn a)) (by omega)
            have z_260 := j_257.1.2.2.2.2.2.2.2 (x_fn sg 1 (x_val t nn a)) (by omega) (by omega)
            refine to_is (pc := 93) rw_103_93 (ls2 := [.ref 28, .ref 1, .ref p, .ref 11, .int s, .int v255, .int v16, .int r64, .int r205]) rfl rfl ?_
            refine to_an (pc := 95) rw_103_95 rfl ?_
            refine to_i (pc := 96) rw_103_96 rfl ?_
            refine s_v (pc := 98) rw_103_98 (dp0 hd (by decide)) (ls0 := [.ref p, .int r205]) rfl (Nat.le_of_ble_eq_true rfl) (Nat.le_of_ble_eq_true rfl) rfl (to_rc rfl rfl rfl (g_o hG207 (by rcases hp with rfl | rfl <;> rfl))) rfl ?_
            refine to_an (pc := 0) rw_47_0 rfl ?_
            refine s_gR (pc := 1) rw_47_1 hG207 (by rcases hp with rfl | rfl <;> rfl) (v := (p + 4)) (by rcases hp with rfl | rfl <;> rfl) ?_
            refine to_in (pc := 4) rw_47_4 rfl ?_
            refine s_ial (pc := 5) rw_47_5 hG207 (by rcases hp with rfl | rfl <;> rfl) (n := 8) (by rcases hp with rfl | rfl <;> rfl) (by rcases hp with rfl | rfl <;> rfl) (A := r205.toInt) rfl (by omega) (by omega) (lo := 0) (hi := 63) (by rcases hp with rfl | rfl <;> rfl) (by rcases hp with rfl | rfl <;> rfl) (fun v261 w_262 _ _ => ?_)
            have z_263 := PLs_r j_257 4 (by decide) (by decide) (k := r205.toInt) (by omega) (by omega) w_262
            have z_264 := x_row_v (s := sg) (r := 4) (x := r205.toInt) (y := x_fn sg 1 (x_val t nn a)) (by omega)
            refine to_an (pc := 6) rw_47_6 rfl ?_
            refine s_gR (pc := 7) rw_47_7 hG207 (by rcases hp with rfl | rfl <;> rfl) (v := (p + 3)) (by rcases hp with rfl | rfl <;> rfl) ?_
            refine to_in (pc := 10) rw_47_10 rfl ?_
            refine s_ialk (pc := 11) rw_47_11 hG207 (by rcases hp with rfl | rfl <;> rfl) (n := 8) (by rcases hp with rfl | rfl <;> rfl) (by rcases hp with rfl | rfl <;> rfl) (A := r205.toInt) rfl (by omega) (by omega) (v := v255) w_256 ?_
            refine s_sub (pc := 12) rw_47_12 (A := v261.toInt) (B := v255.toInt) rfl rfl (by omega) (fun v267 e268 => ?_)
            refine to_c (pc := 13) rw_47_13 (x := (1 : Int32)) rfl rfl ?_
            refine s_add (pc := 14) rw_47_14 (A := v267.toInt) (B := 1) rfl rfl (by omega) (fun v269 e270 => ?_)
            refine to_r0 (pc := 15) rw_47_15 ?_
            refine to_c (pc := 101) rw_103_101 (x := (1 : Int32)) rfl rfl ?_
            refine s_sub (pc := 102) rw_103_102 (A := v269.toInt) (B := 1) rfl rfl (by omega) (fun v271 e272 => ?_)
            refine to_is (pc := 103) rw_103_103 (ls2 := [.ref 28, .ref 1, .ref p, .ref 11, .int s, .int v255, .int v271, .int r64, .int r205]) rfl rfl ?_
            refine to_an (pc := 105) rw_103_105 rfl ?_
            refine s_v (pc := 106) rw_103_106 (dp0 hd (by decide)) (ls0 := [.ref 1]) rfl (Nat.le_of_ble_eq_true rfl) (Nat.le_of_ble_eq_true rfl) rfl (to_rc rfl rfl rfl (g_o hG207 rfl)) rfl ?_
            have j_273 := (CS_f (tg_28 F206) (CS_f (tg_28 F65) q3))
            have c_274 : M211.2.1 1 9 = (M.2.1 1 9) := (F_n F206 (show ¬ (1 < 0) by decide) (F_n F65 (show ¬ (1 < 0) by decide) rfl))
            have t_275 : (M211.2.1 1 9).toInt = (M.2.1 1 9).toInt := congrArg Int32.toInt c_274
            refine E_83 hX (dp1 hd (by decide)) hG207 j_273 (by omega) (t := t) (nn := nn) (a := a) (fun M280 hG277 F276 p_278 p_279 => ?_)
            have F281 := FR.c F212 F276 tg_158
            refine to_an (pc := 109) rw_103_109 rfl ?_
            refine to_c (pc := 110) rw_103_110 (x := (0 : Int32)) rfl rfl ?_
            refine to_i (pc := 111) rw_103_111 rfl ?_
            refine s_v (pc := 113) rw_103_113 (dp0 hd (by decide)) (ls0 := [.ref 1, .int (0 : Int32), .int v271]) rfl (Nat.le_of_ble_eq_true rfl) (Nat.le_of_ble_eq_true rfl) rfl (to_rc rfl rfl rfl (g_o hG277 rfl)) rfl ?_
            have k_282 : (0 : Int32).toInt = 0 := rfl
            refine E_88f hX (dp1 hd (by decide)) hG277 p_278 (by omega) (l := (0 : Int32)) (m := v271) (t := t) (nn := nn) (a := (x_ns t nn a)) (fun r283 M293 hG285 F284 p_286 p_287 p_288 p_289 p_290 p_291 p_292 => ?_)
            have F294 := FR.c F281 F284 tg_157
            rcases (show r283.toInt = 0 ∨ r283.toInt = 1 by omega) with h295 | h295
            · skip
              have p_296 := p_289 (by omega)
              have p_297 := p_290 (by omega)
              clear p_288 p_289 p_290
              have z_298 := x_val_b (t := t) (nn := nn) (a := (x_ns t nn a))
              refine b_ine_f (pc := 116) rw_103_116 (A := r283.toInt) rfl (by omega) ?_
              refine to_c (pc := 119) rw_103_119 (x := (0 : Int32)) rfl rfl ?_
              refine s_r1 (pc := 120) rw_103_120 (A := 0) rfl (by decide) ?_
              have c_299 : M293.2.1 1 9 = (M280.2.1 1 9) := (F_n F284 (show ¬ (1 = 1 ∧ (9 = 10 ∨ 9 = 11)) by decide) rfl)
              have t_300 : (M293.2.1 1 9).toInt = (M280.2.1 1 9).toInt := congrArg Int32.toInt c_299
              have j_301 := (CS_f (tg_34 F284) p_278)
              exact h (0 : Int32) M293 hG285 F294 (by decide) (by decide) j_301 (by omega) (fun z => absurd z (by decide)) (fun i hi => (F_nl F284 (show ¬ (33 = 1 ∧ (i = 10 ∨ i = 11)) by omega) (F_nl F276 (show ¬ (33 = 1 ∧ 6 ≤ i ∧ i ≤ 9) by omega) (F_nl F206 (show ¬ (33 < 0) by decide) (F_nl F65 (show ¬ (33 < 0) by decide) rfl))))) (fun z => absurd z (by decide)) (fun z => absurd z (by decide)) (fun _ k9 => if g9 : x_kind t nn (x_ns t nn a) = 3 then winl (by omega) (by omega) ((p_ndf (by omega) (by omega) (by omega)).trans (p_nb2 g9 (by omega))) else winl (by omega) (by omega) ((p_ndf (by omega) (by omega) (by omega)).trans (p_nb1 g9)))
            · skip
              have p_302 := p_288 (by omega)
              clear p_288 p_289 p_290
              have c_303 : M293.2.1 1 8 = (M280.2.1 1 8) := (F_n F284 (show ¬ (1 = 1 ∧ (8 = 10 ∨ 8 = 11)) by decide) rfl)
              have z_304 := x_val_b (t := t) (nn := nn) (a := (x_ns t nn a)) (by omega)
              refine b_ine_t (pc := 116) rw_103_116 (A := r283.toInt) rfl (by omega) ?_
              refine to_an (pc := 121) rw_103_121 rfl ?_
              refine s_gR (pc := 122) rw_103_122 hG285 rfl (v := 33) rfl ?_
              refine to_i (pc := 125) rw_103_125 rfl ?_
              refine to_dup2 (pc := 127) rw_103_127 ?_
              refine s_lalE (pc := 128) rw_103_128 hG285 rfl (n := 40) rfl (A := s.toInt) rfl (by omega) (by omega) (fun l305 w_306 => ?_)
              have z_307 : l305 = M.2.2.1 33 (s.toInt).toNat := (w_306).symm.trans ((F_nl F284 (show ¬ (33 = 1 ∧ ((s.toInt).toNat = 10 ∨ (s.toInt).toNat = 11)) by omega) (F_nl F276 (show ¬ (33 = 1 ∧ 6 ≤ (s.toInt).toNat ∧ (s.toInt).toNat ≤ 9) by omega) (F_nl F206 (show ¬ (33 < 0) by decide) (F_nl F65 (show ¬ (33 < 0) by decide) rfl)))))
              refine to_cl (pc := 129) rw_103_129 rfl (x := (1 : Int64)) rfl ?_
              refine to_i (pc := 130) rw_103_130 rfl ?_
              refine to_an (pc := 132) rw_103_132 rfl ?_
              refine tt_gI (pc := 133) rw_103_133 (g_o hG285 rfl) (v := (M280.2.1 1 8)) c_303 ?_
              refine s_add (pc := 136) rw_103_136 (A := v255.toInt) (B := (M280.2.1 1 8).toInt) rfl rfl (by omega) (fun v308 e309 => ?_)
              refine to_2s (pc := 137) rw_103_137 (v := ((1 : Int64) <<< (v308.toInt64 &&& 63))) rfl ?_
              refine to_2l (pc := 138) rw_103_138 (v := (l305 ||| ((1 : Int64) <<< (v308.toInt64 &&& 63)))) rfl ?_
              refine s_las (pc := 139) rw_103_139 hG285 rfl (n := 40) rfl (A := s.toInt) rfl (by omega) (by omega) (fun M311 W310 => ?_)
              have hG312 := g_wl hG285 W310
              have F313 := FR.wl F294 W310 (show 33 = 1 ∧ 6 ≤ (s.toInt).toNat ∧ (s.toInt).toNat ≤ 11 ∨ 33 = 33 by omega)
              refine to_an (pc := 140) rw_103_140 rfl ?_
              refine s_v (pc := 141) rw_103_141 (dp0 hd (by decide)) (ls0 := [.ref 1]) rfl (Nat.le_of_ble_eq_true rfl) (Nat.le_of_ble_eq_true rfl) rfl (to_rc rfl rfl rfl (g_o hG312 rfl)) rfl ?_
              have j_314 := (CS_f (fun a i z => W_l W310 rfl) (CS_f (tg_34 F284) p_278))
              have c_315 : M311.2.1 1 9 = (M280.2.1 1 9) := (W_l W310 (F_n F284 (show ¬ (1 = 1 ∧ (9 = 10 ∨ 9 = 11)) by decide) rfl))
              have t_316 : (M311.2.1 1 9).toInt = (M280.2.1 1 9).toInt := congrArg Int32.toInt c_315
              refine E_83 hX (dp1 hd (by decide)) hG312 j_314 (by omega) (t := t) (nn := nn) (a := (x_ns t nn a)) (fun M321 hG318 F317 p_319 p_320 => ?_)
              have F322 := FR.c F313 F317 tg_158
              refine to_c (pc := 144) rw_103_144 (x := (1 : Int32)) rfl rfl ?_
              refine s_r1 (pc := 145) rw_103_145 (A := 1) rfl (by decide) ?_
              have k_323 : (1 : Int32).toInt = 1 := rfl
              have z_324 := x_ns_lt (t := t) (nn := nn) (a := a) (by omega) (x_lt_k (t := t) (by omega) (by omega))
              have z_325 := x_ns_b (t := t) (n := nn) (a := (x_ns t nn a)) (by omega) (by omega)
              exact h (1 : Int32) M321 hG318 F322 (by decide) (by decide) p_319 (by omega) (fun _ => (fun q9 => ⟨(((F_nl F317 (show ¬ (33 = 1 ∧ 6 ≤ (s.toInt).toNat ∧ (s.toInt).toNat ≤ 9) by omega) rfl)).trans (L_e W310)).trans (by rw [z_307, ← q9.1, x_bit_e (v := v308) rfl]), by rw [q9.2]; omega⟩) (x_nb_f (t := t) (nn := nn) (s := sg) (C := C9) (g := a) (by omega) (by omega) (b := v308.toInt) (by omega))) (fun i hi => (F_nl F317 (show ¬ (33 = 1 ∧ 6 ≤ i ∧ i ≤ 9) by omega) (L_n W310 (by omega) (F_nl F284 (show ¬ (33 = 1 ∧ (i = 10 ∨ i = 11)) by omega) (F_nl F276 (show ¬ (33 = 1 ∧ 6 ≤ i ∧ i ≤ 9) by omega) (F_nl F206 (show ¬ (33 < 0) by decide) (F_nl F65 (show ¬ (33 < 0) by decide) rfl))))))) (fun _ => by omega) (fun _ k9 => by rw [show (M321.2.1 1 9).toInt = (x_ns t nn (x_ns t nn a)) by omega]; exact (p_ndf (by omega) (by omega) (by omega)).trans (p_nb (by omega) (by omega))) (fun z => absurd z (by decide))
      · refine to_c (pc := 12) rw_44_12 (x := (1 : Int32)) rfl rfl ?_
        refine to_go (pc := 13) rw_44_13 ?_
        refine s_r1 (pc := 17) rw_44_17 (A := 1) rfl (by decide) ?_
        refine b_ieq_f (pc := 35) rw_103_35 (A := 1) rfl (by decide) ?_
        refine to_an (pc := 38) rw_103_38 rfl ?_
        refine s_gR (pc := 39) rw_103_39 hG66 rfl (v := 33) rfl ?_
        refine to_i (pc := 42) rw_103_42 rfl ?_
        refine to_dup2 (pc := 44) rw_103_44 ?_
        refine s_lalE (pc := 45) rw_103_45 hG66 rfl (n := 40) rfl (A := s.toInt) rfl (by omega) (by omega) (fun l326 w_327 => ?_)
        have z_328 : l326 = M.2.2.1 33 (s.toInt).toNat := (w_327).symm.trans ((F_nl F65 (show ¬ (33 < 0) by decide) rfl))
        refine to_an (pc := 46) rw_103_46 rfl ?_
        refine s_gR (pc := 47) rw_103_47 hG66 rfl (v := 15) rfl ?_
        refine to_i (pc := 50) rw_103_50 rfl ?_
        refine s_lalE (pc := 52) rw_103_52 hG66 rfl (n := 12) rfl (A := r64.toInt) rfl (by omega) (by omega) (fun l329 w_330 => ?_)
        have z_331 : l329 = C9 (r64.toInt).toNat := (w_330).symm.trans (((F_nl F65 (show ¬ (15 < 0) by decide) rfl)).trans (q6 (r64.toInt).toNat (by omega)))
        refine to_2l (pc := 53) rw_103_53 (v := (l326 ||| l329)) rfl ?_
        refine s_las (pc := 54) rw_103_54 hG66 rfl (n := 40) rfl (A := s.toInt) rfl (by omega) (by omega) (fun M333 W332 => ?_)
        have hG334 := g_wl hG66 W332
        have F335 := FR.wl F71 W332 (show 33 = 1 ∧ 6 ≤ (s.toInt).toNat ∧ (s.toInt).toNat ≤ 11 ∨ 33 = 33 by omega)
        refine to_an (pc := 55) rw_103_55 rfl ?_
        refine s_v (pc := 56) rw_103_56 (dp0 hd (by decide)) (ls0 := [.ref 1]) rfl (Nat.le_of_ble_eq_true rfl) (Nat.le_of_ble_eq_true rfl) rfl (to_rc rfl rfl rfl (g_o hG334 rfl)) rfl ?_
        have j_336 := (CS_f (fun a i z => W_l W332 rfl) (CS_f (tg_28 F65) q3))
        have c_337 : M333.2.1 1 9 = (M.2.1 1 9) := (W_l W332 (F_n F65 (show ¬ (1 < 0) by decide) rfl))
        have t_338 : (M333.2.1 1 9).toInt = (M.2.1 1 9).toInt := congrArg Int32.toInt c_337
        refine E_83 hX (dp1 hd (by decide)) hG334 j_336 (by omega) (t := t) (nn := nn) (a := a) (fun M343 hG340 F339 p_341 p_342 => ?_)
        have F344 := FR.c F335 F339 tg_158
        refine to_c (pc := 59) rw_103_59 (x := (1 : Int32)) rfl rfl ?_
        refine s_r1 (pc := 60) rw_103_60 (A := 1) rfl (by decide) ?_
        have k_345 : (1 : Int32).toInt = 1 := rfl
        have z_346 := x_ns_lt (t := t) (nn := nn) (a := a) (by omega) (x_lt_k (t := t) (by omega) (by omega))
        exact h (1 : Int32) M343 hG340 F344 (by decide) (by decide) p_341 (by omega) (fun _ => (fun q9 => ⟨(((F_nl F339 (show ¬ (33 = 1 ∧ 6 ≤ (s.toInt).toNat ∧ (s.toInt).toNat ≤ 9) by omega) rfl)).trans (L_e W332)).trans (by rw [z_328, ← q9.1]), by rw [q9.2]; omega⟩) (x_nb_w (t := t) (nn := nn) (s := sg) (C := C9) (g := a) (by omega) (by omega) (w := _) (by omega) z_331)) (fun i hi => (F_nl F339 (show ¬ (33 = 1 ∧ 6 ≤ i ∧ i ≤ 9) by omega) (L_n W332 (by omega) (F_nl F65 (show ¬ (33 < 0) by decide) rfl)))) (fun _ => by omega) (fun _ k9 => by rw [show (M343.2.1 1 9).toInt = (x_ns t nn a) by omega]; exact p_ndw (by omega) (by omega)) (fun z => absurd z (by decide))
