theorem tg_126 : ∀ a i : Nat, (a = 1 ∧ 6 ≤ i ∧ i ≤ 11) → (a = 1 ∧ 6 ≤ i ∧ i ≤ 11 ∨ 30 ≤ a ∧ a ≤ 33) := fun a i z => by omega
theorem tg_127 : ∀ a i : Nat, (a = 1 ∧ 6 ≤ i ∧ i ≤ 11 ∨ a = 33) → (a = 1 ∧ 6 ≤ i ∧ i ≤ 11 ∨ 30 ≤ a ∧ a ≤ 33) := fun a i z => by omega
theorem tg_128 : ∀ a i : Nat, (a = 1 ∧ 6 ≤ i ∧ i ≤ 11 ∨ a = 30) → (a = 1 ∧ 6 ≤ i ∧ i ≤ 11 ∨ 30 ≤ a ∧ a ≤ 33) := fun a i z => by omega
theorem tg_129 : ∀ a i : Nat, (a = 1 ∧ 6 ≤ i ∧ i ≤ 11 ∨ a = 31) → (a = 1 ∧ 6 ≤ i ∧ i ≤ 11 ∨ 30 ≤ a ∧ a ≤ 33) := fun a i z => by omega
theorem tg_130 : ∀ a i : Nat, (a = 1 ∧ 6 ≤ i ∧ i ≤ 11 ∨ a = 32) → (a = 1 ∧ 6 ≤ i ∧ i ≤ 11 ∨ 30 ≤ a ∧ a ≤ 33) := fun a i z => by omega
set_option maxRecDepth 4000 in
set_option maxHeartbeats 0 in
theorem U_101_0 {X : mm_X} {d : Nat} {M : mm_M} {Q : Option Value → mm_M → Prop} {p : Nat} {s : Int32} {t : Nat → Int} {nn : Int} {a : Int} {sg : x_S} {n9 : Int} {op : List Int} {A9 : x_A} (hX : g_X X) (hd : 3 ≤ d) (hp : p = 49 ∨ p = 58) (q1 : 0 ≤ s.toInt) (q2 : s.toInt ≤ 39) (q3 : CS M t nn) (q4 : (M.2.1 1 9).toInt = a) (q5 : PLs M p sg) (q6 : nn ≤ 500) (h : ∀ (r : Int32) (M1 : mm_M), g_G M1 → FR md_w101 M M1 → (0 ≤ r.toInt) → (r.toInt ≤ 1) → CS M1 t nn → ((r.toInt = 1 → x_wps t nn sg a (x_ww t nn sg 1 n9 op A9) = x_ww t nn sg 0 n9 op A9 (M1.2.1 1 9).toInt)) → ((r.toInt = 0 → x_wps t nn sg a (x_ww t nn sg 1 n9 op A9) = Sum.inl ((M1.2.1 1 10).toInt, (M1.2.1 1 11).toInt))) → Q (some (.int r)) M1) : ∀ nn9 : Nat, (∀ (N : mm_M) (x5 : Int32), g_G N → FR md_w101 M N → (0 ≤ x5.toInt) → (x5.toInt ≤ 500) → (x5.toInt ≤ (N.2.1 1 9).toInt) → (0 ≤ s.toInt) → (s.toInt ≤ 39) → (CS N t nn) → (PLs N p sg) → (x_wps t nn sg a (x_ww t nn sg 1 n9 op A9) = x_ww t nn sg 1 n9 op A9 (N.2.1 1 9).toInt) → 500 - x5.toInt < (nn9 : Int) → mm_T X d 101 89 [.ref 28, .ref 1, .ref p, .ref 11, .int s, .int x5] [] N Q) := by
  intro nn9
  induction nn9 with
  | zero =>
    intro N x5 hG F0 g1 g2 g3 g4 g5 g6 g7 g8 hm
    exfalso; omega
  | succ nn9 ih =>
    intro N x5 hG F0 g1 g2 g3 g4 g5 g6 g7 g8 hm
    have c_1 := CS_u g6 (a := (N.2.1 1 9).toInt) (by omega)
    unfold x_C at c_1
    have z_2 := fun h9 : nn ≤ (N.2.1 1 9).toInt => (x_t0 (t := t) (n := nn) (a := (N.2.1 1 9).toInt) h9).1
    refine to_i (pc := 89) rw_101_89 rfl ?_
    refine to_c (pc := 91) rw_101_91 (x := (500 : Int32)) rfl rfl ?_
    refine b_cge (pc := 94) rw_101_94 (A := x5.toInt) (B := 500) rfl rfl (fun h3 => ?_) (fun h3 => ?_)
    · refine to_an (pc := 126) rw_101_126 rfl ?_
      refine to_c (pc := 127) rw_101_127 (x := (59 : Int32)) rfl rfl ?_
      refine s_v (pc := 129) rw_101_129 (dp0 hd (by decide)) (ls0 := [.ref 1, .int (59 : Int32)]) rfl (Nat.le_of_ble_eq_true rfl) (Nat.le_of_ble_eq_true rfl) rfl (to_rc rfl rfl rfl (g_o hG rfl)) rfl ?_
      have k_4 : (59 : Int32).toInt = 59 := rfl
      refine E_90s hX (dp1 hd (by decide)) hG g6 (by omega) (by omega) (c := (59 : Int32)) (t := t) (nn := nn) (a := (N.2.1 1 9).toInt) (fun r5 M14 hG7 F6 p_8 p_9 p_10 p_11 p_12 p_13 => ?_)
      have F15 := FR.c F0 F6 tg_126
      rcases (show r5.toInt = 0 ∨ r5.toInt = 1 by omega) with h16 | h16
      · skip
        have p_17 := p_12 (by omega)
        have p_18 := p_13 (by omega)
        clear p_11 p_12 p_13
        have z_19 := g8.trans (w1_x (by omega) (by omega) (by omega) (by omega))
        refine s_r1 (pc := 132) rw_101_132 (A := r5.toInt) rfl (by omega) ?_
        exact h r5 M14 hG7 F15 (by omega) (by omega) p_10 (fun z => by exfalso; omega) (fun _ => winl (by omega) (by omega) z_19)
      · skip
        have p_20 := p_11 (by omega)
        clear p_11 p_12 p_13
        have z_21 := g8.trans (w1_s (by omega) (by omega) (by omega))
        refine s_r1 (pc := 132) rw_101_132 (A := r5.toInt) rfl (by omega) ?_
        exact h r5 M14 hG7 F15 (by omega) (by omega) p_10 (fun _ => z_21.trans (w_v rfl (by omega))) (fun z => by exfalso; omega)
    · refine to_an (pc := 97) rw_101_97 rfl ?_
      refine tt_gI (pc := 98) rw_101_98 (g_o hG rfl) (v := (N.2.1 1 7)) rfl ?_
      refine to_c (pc := 101) rw_101_101 (x := (59 : Int32)) rfl rfl ?_
      refine b_ceq (pc := 103) rw_101_103 (A := (N.2.1 1 7).toInt) (B := 59) rfl rfl (fun h22 => ?_) (fun h22 => ?_)
      · refine to_an (pc := 126) rw_101_126 rfl ?_
        refine to_c (pc := 127) rw_101_127 (x := (59 : Int32)) rfl rfl ?_
        refine s_v (pc := 129) rw_101_129 (dp0 hd (by decide)) (ls0 := [.ref 1, .int (59 : Int32)]) rfl (Nat.le_of_ble_eq_true rfl) (Nat.le_of_ble_eq_true rfl) rfl (to_rc rfl rfl rfl (g_o hG rfl)) rfl ?_
        have k_23 : (59 : Int32).toInt = 59 := rfl
        refine E_90s hX (dp1 hd (by decide)) hG g6 (by omega) (by omega) (c := (59 : Int32)) (t := t) (nn := nn) (a := (N.2.1 1 9).toInt) (fun r24 M33 hG26 F25 p_27 p_28 p_29 p_30 p_31 p_32 => ?_)
        have F34 := FR.c F0 F25 tg_126
        rcases (show r24.toInt = 0 ∨ r24.toInt = 1 by omega) with h35 | h35
        · skip
          have p_36 := p_31 (by omega)
          have p_37 := p_32 (by omega)
          clear p_30 p_31 p_32
          have z_38 := g8.trans (w1_x (by omega) (by omega) (by omega) (by omega))
          refine s_r1 (pc := 132) rw_101_132 (A := r24.toInt) rfl (by omega) ?_
          exact h r24 M33 hG26 F34 (by omega) (by omega) p_29 (fun z => by exfalso; omega) (fun _ => winl (by omega) (by omega) z_38)
        · skip
          have p_39 := p_30 (by omega)
          clear p_30 p_31 p_32
          have z_40 := g8.trans (w1_s (by omega) (by omega) (by omega))
          refine s_r1 (pc := 132) rw_101_132 (A := r24.toInt) rfl (by omega) ?_
          exact h r24 M33 hG26 F34 (by omega) (by omega) p_29 (fun _ => z_40.trans (w_v rfl (by omega))) (fun z => by exfalso; omega)
      · refine to_an (pc := 106) rw_101_106 rfl ?_
        refine to_an (pc := 107) rw_101_107 rfl ?_
        refine to_an (pc := 108) rw_101_108 rfl ?_
        refine to_an (pc := 109) rw_101_109 rfl ?_
        refine to_i (pc := 110) rw_101_110 rfl ?_
        refine s_v (pc := 112) rw_101_112 (dp0 hd (by decide)) (ls0 := [.ref 28, .ref 1, .ref p, .ref 11, .int s, .null, .null, .null, .null]) rfl (Nat.le_of_ble_eq_true rfl) (Nat.le_of_ble_eq_true rfl) rfl (to_rc rfl rfl rfl (g_o hG rfl)) rfl ?_
        refine E_103 hX (dp1 hd (by decide)) hG hp (by omega) (by omega) g6 (by omega) g7 (p := p) (s := s) (t := t) (nn := nn) (a := (N.2.1 1 9).toInt) (sg := sg) (fun r41 M50 hG43 F42 p_44 p_45 p_46 p_47 p_48 p_49 => ?_)
        have F51 := FR.c F0 F42 tg_127
        rcases (show r41.toInt = 0 ∨ r41.toInt = 1 by omega) with h52 | h52
        · skip
          have p_53 := p_49 (by omega)
          clear p_47 p_48 p_49
          have z_54 := g8.trans (w1_nx (by omega) (by omega) (by omega) p_53)
          refine b_ine_f (pc := 115) rw_101_115 (A := r41.toInt) rfl (by omega) ?_
          refine to_c (pc := 118) rw_101_118 (x := (0 : Int32)) rfl rfl ?_
          refine s_r1 (pc := 119) rw_101_119 (A := 0) rfl (by decide) ?_
          have k_55 : (0 : Int32).toInt = 0 := rfl
          exact h (0 : Int32) M50 hG43 F51 (by decide) (by decide) p_46 (fun z => by exfalso; omega) (fun _ => winl (by omega) (by omega) z_54)
        · skip
          have p_56 := p_47 (by omega)
          have p_57 := p_48 (by omega)
          clear p_47 p_48 p_49
          have z_58 := g8.trans (w1_ny (by omega) (by omega) p_57)
          refine b_ine_t (pc := 115) rw_101_115 (A := r41.toInt) rfl (by omega) ?_
          refine s_inc (pc := 120) rw_101_120 (ls2 := fun v => [.ref 28, .ref 1, .ref p, .ref 11, .int s, .int v]) rfl rfl (fun _ => rfl) (A := x5.toInt) (B := 1) rfl rfl (by omega) (fun v59 e60 => ?_)
          refine to_go (pc := 123) rw_101_123 ?_
          have j_61 := (PLs_f (fun a i z => F_n F42 (show ¬ (a = 1 ∧ 6 ≤ i ∧ i ≤ 11 ∨ a = 33) by omega) rfl) g7)
          exact ih M50 v59 hG43 F51 (by omega) (by omega) (by omega) (by omega) (by omega) p_46 j_61 z_58 (by omega)
set_option maxRecDepth 4000 in
set_option maxHeartbeats 0 in
theorem E_101 {X : mm_X} {d : Nat} {M : mm_M} {Q : Option Value → mm_M → Prop} {p : Nat} {s : Int32} {t : Nat → Int} {nn : Int} {a : Int} {sg : x_S} {n9 : Int} {op : List Int} {A9 : x_A} (hX : g_X X) (hd : 3 ≤ d) (hG : g_G M) (hp : p = 49 ∨ p = 58) (q1 : 0 ≤ s.toInt) (q2 : s.toInt ≤ 39) (q3 : CS M t nn) (q4 : (M.2.1 1 9).toInt = a) (q5 : PLs M p sg) (q6 : nn ≤ 500) (h : ∀ (r : Int32) (M1 : mm_M), g_G M1 → FR md_w101 M M1 → (0 ≤ r.toInt) → (r.toInt ≤ 1) → CS M1 t nn → ((r.toInt = 1 → x_wps t nn sg a (x_ww t nn sg 1 n9 op A9) = x_ww t nn sg 0 n9 op A9 (M1.2.1 1 9).toInt)) → ((r.toInt = 0 → x_wps t nn sg a (x_ww t nn sg 1 n9 op A9) = Sum.inl ((M1.2.1 1 10).toInt, (M1.2.1 1 11).toInt))) → Q (some (.int r)) M1) : mm_T X d 101 0 [.ref 28, .ref 1, .ref p, .ref 11, .int s, .null] [] M Q := by
  have F0 : FR md_w101 M M := FR.rf
  have c_62 := CS_u q3 (a := a) (by omega)
  unfold x_C at c_62
  refine to_an (pc := 0) rw_101_0 rfl ?_
  refine to_an (pc := 1) rw_101_1 rfl ?_
  refine to_an (pc := 2) rw_101_2 rfl ?_
  refine s_gR (pc := 3) rw_101_3 hG rfl (v := 30) rfl ?_
  refine to_i (pc := 6) rw_101_6 rfl ?_
  refine s_v (pc := 8) rw_101_8 (dp0 hd (by decide)) (ls0 := [.ref 28, .ref 1, .ref 30, .int s, .null]) rfl (Nat.le_of_ble_eq_true rfl) (Nat.le_of_ble_eq_true rfl) rfl (to_rc rfl rfl rfl (g_o hG rfl)) rfl ?_
  refine E_102x hX (dp1 hd (by decide)) hG (by omega) (by omega) q3 (by omega) (s := s) (t := t) (nn := nn) (a := a) (fun r63 M72 hG65 F64 p_66 p_67 p_68 p_69 p_70 p_71 => ?_)
  have F73 := FR.c F0 F64 tg_128
  rcases (show r63.toInt = 0 ∨ r63.toInt = 1 by omega) with h74 | h74
  · skip
    have p_75 := p_71 (by omega)
    clear p_69 p_70 p_71
    have z_76 : x_wps t nn sg a (x_ww t nn sg 1 n9 op A9) = Sum.inl (1, a) := p_wpx (by omega)
    refine b_ieq_t (pc := 11) rw_101_11 (A := r63.toInt) rfl (by omega) ?_
    refine to_c (pc := 23) rw_101_23 (x := (0 : Int32)) rfl rfl ?_
    refine s_r1 (pc := 24) rw_101_24 (A := 0) rfl (by decide) ?_
    have k_77 : (0 : Int32).toInt = 0 := rfl
    exact h (0 : Int32) M72 hG65 F73 (by decide) (by decide) p_68 (fun z => by exfalso; omega) (fun _ => winl (by omega) (by omega) z_76)
  · skip
    have p_78 := p_69 (by omega)
    have p_79 := p_70 (by omega)
    clear p_69 p_70 p_71
    have z_80 : x_wps t nn sg a (x_ww t nn sg 1 n9 op A9) = x_wy2 t nn 8 (x_ns t nn a) (fun c => x_wp t nn c (fun d => x_wp t nn d (fun e => x_wy2 t nn 9 e (fun g => x_wnd t nn sg g (x_ww t nn sg 1 n9 op A9))))) := p_wp (by omega)
    have z_81 := x_ns_b (t := t) (n := nn) (a := a) (by omega) (by omega)
    refine b_ieq_f (pc := 11) rw_101_11 (A := r63.toInt) rfl (by omega) ?_
    refine to_an (pc := 14) rw_101_14 rfl ?_
    refine to_c (pc := 15) rw_101_15 (x := (686817280 : Int32)) rfl rfl ?_
    refine s_v (pc := 17) rw_101_17 (dp0 hd (by decide)) (ls0 := [.ref 1, .int (686817280 : Int32)]) rfl (Nat.le_of_ble_eq_true rfl) (Nat.le_of_ble_eq_true rfl) rfl (to_rc rfl rfl rfl (g_o hG65 rfl)) rfl ?_
    have k_82 : (686817280 : Int32).toInt = 686817280 := rfl
    refine E_89 hX (dp1 hd (by decide)) hG65 p_68 (by omega) (by omega) (c := (686817280 : Int32)) (t := t) (nn := nn) (a := (x_ns t nn a)) (fun r83 M92 hG85 F84 p_86 p_87 p_88 p_89 p_90 p_91 => ?_)
    have F93 := FR.c F73 F84 tg_126
    rcases (show r83.toInt = 0 ∨ r83.toInt = 1 by omega) with h94 | h94
    · skip
      have p_95 := p_90 (by omega)
      have p_96 := p_91 (by omega)
      clear p_89 p_90 p_91
      have z_97 : x_wps t nn sg a (x_ww t nn sg 1 n9 op A9) = Sum.inl (1, (x_ns t nn a)) := z_80.trans (p_wyx (fun z => by have := (x_kx_w2 (x_val t nn (x_ns t nn a))).2.1.mp z.2; omega))
      refine b_ine_f (pc := 20) rw_101_20 (A := r83.toInt) rfl (by omega) ?_
      refine to_c (pc := 23) rw_101_23 (x := (0 : Int32)) rfl rfl ?_
      refine s_r1 (pc := 24) rw_101_24 (A := 0) rfl (by decide) ?_
      have k_98 : (0 : Int32).toInt = 0 := rfl
      exact h (0 : Int32) M92 hG85 F93 (by decide) (by decide) p_88 (fun z => by exfalso; omega) (fun _ => winl (by omega) (by omega) z_97)
    · skip
      have p_99 := p_89 (by omega)
      clear p_89 p_90 p_91
      have z_100 : x_wps t nn sg a (x_ww t nn sg 1 n9 op A9) = x_wp t nn (x_ns t nn (x_ns t nn a)) (fun d => x_wp t nn d (fun e => x_wy2 t nn 9 e (fun g => x_wnd t nn sg g (x_ww t nn sg 1 n9 op A9)))) := z_80.trans (p_wy ⟨by omega, (x_kx_w2 (x_val t nn (x_ns t nn a))).2.1.mpr (by omega)⟩)
      have z_101 := x_ns_b (t := t) (n := nn) (a := (x_ns t nn a)) (by omega) (by omega)
      refine b_ine_t (pc := 20) rw_101_20 (A := r83.toInt) rfl (by omega) ?_
      refine to_an (pc := 25) rw_101_25 rfl ?_
      refine to_an (pc := 26) rw_101_26 rfl ?_
      refine to_an (pc := 27) rw_101_27 rfl ?_
      refine s_gR (pc := 28) rw_101_28 hG85 rfl (v := 31) rfl ?_
      refine to_i (pc := 31) rw_101_31 rfl ?_
      refine s_v (pc := 33) rw_101_33 (dp0 hd (by decide)) (ls0 := [.ref 28, .ref 1, .ref 31, .int s, .null]) rfl (Nat.le_of_ble_eq_true rfl) (Nat.le_of_ble_eq_true rfl) rfl (to_rc rfl rfl rfl (g_o hG85 rfl)) rfl ?_
      refine E_102y hX (dp1 hd (by decide)) hG85 (by omega) (by omega) p_88 (by omega) (s := s) (t := t) (nn := nn) (a := (x_ns t nn (x_ns t nn a))) (fun r102 M111 hG104 F103 p_105 p_106 p_107 p_108 p_109 p_110 => ?_)
      have F112 := FR.c F93 F103 tg_129
      rcases (show r102.toInt = 0 ∨ r102.toInt = 1 by omega) with h113 | h113
      · skip
        have p_114 := p_110 (by omega)
        clear p_108 p_109 p_110
        have z_115 : x_wps t nn sg a (x_ww t nn sg 1 n9 op A9) = Sum.inl (1, (x_ns t nn (x_ns t nn a))) := z_100.trans (p_wpx (by omega))
        refine b_ieq_t (pc := 36) rw_101_36 (A := r102.toInt) rfl (by omega) ?_
        refine to_c (pc := 62) rw_101_62 (x := (0 : Int32)) rfl rfl ?_
        refine s_r1 (pc := 63) rw_101_63 (A := 0) rfl (by decide) ?_
        have k_116 : (0 : Int32).toInt = 0 := rfl
        exact h (0 : Int32) M111 hG104 F112 (by decide) (by decide) p_107 (fun z => by exfalso; omega) (fun _ => winl (by omega) (by omega) z_115)
      · skip
        have p_117 := p_108 (by omega)
        have p_118 := p_109 (by omega)
        clear p_108 p_109 p_110
        have z_119 : x_wps t nn sg a (x_ww t nn sg 1 n9 op A9) = x_wp t nn (x_ns t nn (x_ns t nn (x_ns t nn a))) (fun e => x_wy2 t nn 9 e (fun g => x_wnd t nn sg g (x_ww t nn sg 1 n9 op A9))) := z_100.trans (p_wp (by omega))
        have z_120 := x_ns_b (t := t) (n := nn) (a := (x_ns t nn (x_ns t nn a))) (by omega) (by omega)
        refine b_ieq_f (pc := 36) rw_101_36 (A := r102.toInt) rfl (by omega) ?_
        refine to_an (pc := 39) rw_101_39 rfl ?_
        refine to_an (pc := 40) rw_101_40 rfl ?_
        refine to_an (pc := 41) rw_101_41 rfl ?_
        refine s_gR (pc := 42) rw_101_42 hG104 rfl (v := 32) rfl ?_
        refine to_i (pc := 45) rw_101_45 rfl ?_
        refine s_v (pc := 47) rw_101_47 (dp0 hd (by decide)) (ls0 := [.ref 28, .ref 1, .ref 32, .int s, .null]) rfl (Nat.le_of_ble_eq_true rfl) (Nat.le_of_ble_eq_true rfl) rfl (to_rc rfl rfl rfl (g_o hG104 rfl)) rfl ?_
        refine E_102z hX (dp1 hd (by decide)) hG104 (by omega) (by omega) p_107 (by omega) (s := s) (t := t) (nn := nn) (a := (x_ns t nn (x_ns t nn (x_ns t nn a)))) (fun r121 M130 hG123 F122 p_124 p_125 p_126 p_127 p_128 p_129 => ?_)
        have F131 := FR.c F112 F122 tg_130
        rcases (show r121.toInt = 0 ∨ r121.toInt = 1 by omega) with h132 | h132
        · skip
          have p_133 := p_129 (by omega)
          clear p_127 p_128 p_129
          have z_134 : x_wps t nn sg a (x_ww t nn sg 1 n9 op A9) = Sum.inl (1, (x_ns t nn (x_ns t nn (x_ns t nn a)))) := z_119.trans (p_wpx (by omega))
          refine b_ieq_t (pc := 50) rw_101_50 (A := r121.toInt) rfl (by omega) ?_
          refine to_c (pc := 62) rw_101_62 (x := (0 : Int32)) rfl rfl ?_
          refine s_r1 (pc := 63) rw_101_63 (A := 0) rfl (by decide) ?_
          have k_135 : (0 : Int32).toInt = 0 := rfl
          exact h (0 : Int32) M130 hG123 F131 (by decide) (by decide) p_126 (fun z => by exfalso; omega) (fun _ => winl (by omega) (by omega) z_134)
        · skip
          have p_136 := p_127 (by omega)
          have p_137 := p_128 (by omega)
          clear p_127 p_128 p_129
          have z_138 : x_wps t nn sg a (x_ww t nn sg 1 n9 op A9) = x_wy2 t nn 9 (x_ns t nn (x_ns t nn (x_ns t nn (x_ns t nn a)))) (fun g => x_wnd t nn sg g (x_ww t nn sg 1 n9 op A9)) := z_119.trans (p_wp (by omega))
          have z_139 := x_ns_b (t := t) (n := nn) (a := (x_ns t nn (x_ns t nn (x_ns t nn a)))) (by omega) (by omega)
          refine b_ieq_f (pc := 50) rw_101_50 (A := r121.toInt) rfl (by omega) ?_
          refine to_an (pc := 53) rw_101_53 rfl ?_
          refine to_c (pc := 54) rw_101_54 (x := (93323264 : Int32)) rfl rfl ?_
          refine s_v (pc := 56) rw_101_56 (dp0 hd (by decide)) (ls0 := [.ref 1, .int (93323264 : Int32)]) rfl (Nat.le_of_ble_eq_true rfl) (Nat.le_of_ble_eq_true rfl) rfl (to_rc rfl rfl rfl (g_o hG123 rfl)) rfl ?_
          have k_140 : (93323264 : Int32).toInt = 93323264 := rfl
          refine E_89 hX (dp1 hd (by decide)) hG123 p_126 (by omega) (by omega) (c := (93323264 : Int32)) (t := t) (nn := nn) (a := (x_ns t nn (x_ns t nn (x_ns t nn (x_ns t nn a))))) (fun r141 M150 hG143 F142 p_144 p_145 p_146 p_147 p_148 p_149 => ?_)
          have F151 := FR.c F131 F142 tg_126
          rcases (show r141.toInt = 0 ∨ r141.toInt = 1 by omega) with h152 | h152
          · skip
            have p_153 := p_148 (by omega)
            have p_154 := p_149 (by omega)
            clear p_147 p_148 p_149
            have z_155 : x_wps t nn sg a (x_ww t nn sg 1 n9 op A9) = Sum.inl (1, (x_ns t nn (x_ns t nn (x_ns t nn (x_ns t nn a))))) := z_138.trans (p_wyx (fun z => by have := (x_kx_w2 (x_val t nn (x_ns t nn (x_ns t nn (x_ns t nn (x_ns t nn a)))))).2.2.1.mp z.2; omega))
            refine b_ine_f (pc := 59) rw_101_59 (A := r141.toInt) rfl (by omega) ?_
            refine to_c (pc := 62) rw_101_62 (x := (0 : Int32)) rfl rfl ?_
            refine s_r1 (pc := 63) rw_101_63 (A := 0) rfl (by decide) ?_
            have k_156 : (0 : Int32).toInt = 0 := rfl
            exact h (0 : Int32) M150 hG143 F151 (by decide) (by decide) p_146 (fun z => by exfalso; omega) (fun _ => winl (by omega) (by omega) z_155)
          · skip
            have p_157 := p_147 (by omega)
            clear p_147 p_148 p_149
            have z_158 : x_wps t nn sg a (x_ww t nn sg 1 n9 op A9) = x_wnd t nn sg (x_ns t nn (x_ns t nn (x_ns t nn (x_ns t nn (x_ns t nn a))))) (x_ww t nn sg 1 n9 op A9) := z_138.trans (p_wy ⟨by omega, (x_kx_w2 (x_val t nn (x_ns t nn (x_ns t nn (x_ns t nn (x_ns t nn a)))))).2.2.1.mpr (by omega)⟩)
            have z_159 := x_ns_b (t := t) (n := nn) (a := (x_ns t nn (x_ns t nn (x_ns t nn (x_ns t nn a))))) (by omega) (by omega)
            refine b_ine_t (pc := 59) rw_101_59 (A := r141.toInt) rfl (by omega) ?_
            refine to_an (pc := 64) rw_101_64 rfl ?_
            refine s_gR (pc := 65) rw_101_65 hG143 rfl (v := 33) rfl ?_
            refine to_i (pc := 68) rw_101_68 rfl ?_
            refine to_cl (pc := 70) rw_101_70 rfl (x := (0 : Int64)) rfl ?_
            refine s_las (pc := 71) rw_101_71 hG143 rfl (n := 40) rfl (A := s.toInt) rfl (by omega) (by omega) (fun M161 W160 => ?_)
            have hG162 := g_wl hG143 W160
            have F163 := FR.wl F151 W160 (show 33 = 1 ∧ 6 ≤ (s.toInt).toNat ∧ (s.toInt).toNat ≤ 11 ∨ 30 ≤ 33 ∧ 33 ≤ 33 by omega)
            refine to_an (pc := 72) rw_101_72 rfl ?_
            refine to_an (pc := 73) rw_101_73 rfl ?_
            refine to_an (pc := 74) rw_101_74 rfl ?_
            refine to_an (pc := 75) rw_101_75 rfl ?_
            refine to_i (pc := 76) rw_101_76 rfl ?_
            refine s_v (pc := 78) rw_101_78 (dp0 hd (by decide)) (ls0 := [.ref 28, .ref 1, .ref p, .ref 11, .int s, .null, .null, .null, .null]) rfl (Nat.le_of_ble_eq_true rfl) (Nat.le_of_ble_eq_true rfl) rfl (to_rc rfl rfl rfl (g_o hG162 rfl)) rfl ?_
            have j_164 := (CS_f (fun a i z => W_l W160 rfl) p_146)
            have c_165 : M161.2.1 1 9 = (M150.2.1 1 9) := (W_l W160 rfl)
            have t_166 : (M161.2.1 1 9).toInt = (M150.2.1 1 9).toInt := congrArg Int32.toInt c_165
            have j_167 := (PLs_f (fun a i z => W_l W160 rfl) (PLs_f (fun a i z => F_n F142 (show ¬ (a = 1 ∧ 6 ≤ i ∧ i ≤ 11) by omega) rfl) (PLs_f (fun a i z => F_n F122 (show ¬ (a = 1 ∧ 6 ≤ i ∧ i ≤ 11 ∨ a = 32) by omega) rfl) (PLs_f (fun a i z => F_n F103 (show ¬ (a = 1 ∧ 6 ≤ i ∧ i ≤ 11 ∨ a = 31) by omega) rfl) (PLs_f (fun a i z => F_n F84 (show ¬ (a = 1 ∧ 6 ≤ i ∧ i ≤ 11) by omega) rfl) (PLs_f (fun a i z => F_n F64 (show ¬ (a = 1 ∧ 6 ≤ i ∧ i ≤ 11 ∨ a = 30) by omega) rfl) q5))))))
            refine E_103 hX (dp1 hd (by decide)) hG162 hp (by omega) (by omega) j_164 (by omega) j_167 (p := p) (s := s) (t := t) (nn := nn) (a := (x_ns t nn (x_ns t nn (x_ns t nn (x_ns t nn (x_ns t nn a)))))) (sg := sg) (fun r168 M177 hG170 F169 p_171 p_172 p_173 p_174 p_175 p_176 => ?_)
            have F178 := FR.c F163 F169 tg_127
            rcases (show r168.toInt = 0 ∨ r168.toInt = 1 by omega) with h179 | h179
            · skip
              have p_180 := p_176 (by omega)
              clear p_174 p_175 p_176
              have z_181 := z_158.trans (p_180 (x_ww t nn sg 1 n9 op A9))
              refine b_ine_f (pc := 81) rw_101_81 (A := r168.toInt) rfl (by omega) ?_
              refine to_c (pc := 84) rw_101_84 (x := (0 : Int32)) rfl rfl ?_
              refine s_r1 (pc := 85) rw_101_85 (A := 0) rfl (by decide) ?_
              have k_182 : (0 : Int32).toInt = 0 := rfl
              exact h (0 : Int32) M177 hG170 F178 (by decide) (by decide) p_173 (fun z => by exfalso; omega) (fun _ => winl (by omega) (by omega) z_181)
            · skip
              have p_183 := p_174 (by omega)
              have p_184 := p_175 (by omega)
              clear p_174 p_175 p_176
              have z_185 := z_158.trans (p_184 (x_ww t nn sg 1 n9 op A9))
              refine b_ine_t (pc := 81) rw_101_81 (A := r168.toInt) rfl (by omega) ?_
              refine to_c (pc := 86) rw_101_86 (x := (0 : Int32)) rfl rfl ?_
              refine to_is (pc := 87) rw_101_87 (ls2 := [.ref 28, .ref 1, .ref p, .ref 11, .int s, .int (0 : Int32)]) rfl rfl ?_
              have k_186 : (0 : Int32).toInt = 0 := rfl
              have j_187 := (PLs_f (fun a i z => F_n F169 (show ¬ (a = 1 ∧ 6 ≤ i ∧ i ≤ 11 ∨ a = 33) by omega) rfl) j_167)
              exact (U_101_0 (p := p) (s := s) (t := t) (nn := nn) (a := a) (sg := sg) (n9 := n9) (op := op) (A9 := A9) hX hd hp q1 q2 q3 q4 q5 q6 h ((500 - (0 : Int32).toInt).toNat + 1)) M177 (0 : Int32) hG170 F178 (by omega) (by omega) (by omega) (by omega) (by omega) p_173 j_187 z_185 (by omega)
set_option maxRecDepth 4000 in
set_option maxHeartbeats 0 in
theorem E_104 {X : mm_X} {d : Nat} {M : mm_M} {Q : Option Value → mm_M → Prop} {s : Int32} {t : Nat → Int} {nn : Int} {a : Int} (hX : g_X X) (hd : 2 ≤ d) (hG : g_G M) (q1 : 0 ≤ s.toInt) (q2 : s.toInt ≤ 39) (q3 : CS M t nn) (q4 : (M.2.1 1 9).toInt = a) (h : ∀ (r : Int32) (M1 : mm_M), g_G M1 → FR md_w101 M M1 → (0 ≤ r.toInt) → (r.toInt ≤ 1) → CS M1 t nn → ((r.toInt = 1 → ∀ k : Int → x_WR, x_wjn t nn a k = k (M1.2.1 1 9).toInt)) → ((r.toInt = 0 → ∀ k : Int → x_WR, x_wjn t nn a k = Sum.inl ((M1.2.1 1 10).toInt, (M1.2.1 1 11).toInt))) → Q (some (.int r)) M1) : mm_T X d 104 0 [.ref 28, .ref 1, .int s, .null] [] M Q := by
  have F0 : FR md_w101 M M := FR.rf
  have z_1 := x_pk_b (t := t) (nn := nn) (a := a)
  have z_2 := x_pk_b (t := t) (nn := nn) (a := (x_ns t nn a))
  refine to_an (pc := 0) rw_104_0 rfl ?_
  refine to_an (pc := 1) rw_104_1 rfl ?_
  refine to_an (pc := 2) rw_104_2 rfl ?_
  refine s_gR (pc := 3) rw_104_3 hG rfl (v := 30) rfl ?_
  refine to_in (pc := 6) rw_104_6 rfl ?_
  refine s_v (pc := 7) rw_104_7 (dp0 hd (by decide)) (ls0 := [.ref 28, .ref 1, .ref 30, .int s, .null]) rfl (Nat.le_of_ble_eq_true rfl) (Nat.le_of_ble_eq_true rfl) rfl (to_rc rfl rfl rfl (g_o hG rfl)) rfl ?_
  refine E_102x hX (dp1 hd (by decide)) hG (by omega) (by omega) q3 (by omega) (s := s) (t := t) (nn := nn) (a := a) (fun r3 M12 hG5 F4 p_6 p_7 p_8 p_9 p_10 p_11 => ?_)
  have F13 := FR.c F0 F4 tg_128
  rcases (show r3.toInt = 0 ∨ r3.toInt = 1 by omega) with h14 | h14
  · skip
    have p_15 := p_11 (by omega)
    clear p_9 p_10 p_11
    refine b_ine_f (pc := 10) rw_104_10 (A := r3.toInt) rfl (by omega) ?_
    refine to_c (pc := 13) rw_104_13 (x := (0 : Int32)) rfl rfl ?_
    refine s_r1 (pc := 14) rw_104_14 (A := 0) rfl (by decide) ?_
    have k_16 : (0 : Int32).toInt = 0 := rfl
    exact h (0 : Int32) M12 hG5 F13 (by decide) (by decide) p_8 (fun z => by exfalso; omega) (fun _ k9 => winl (by omega) (by omega) (wj_1 (by omega)))
  · skip
    have p_17 := p_9 (by omega)
    have p_18 := p_10 (by omega)
    clear p_9 p_10 p_11
    refine b_ine_t (pc := 10) rw_104_10 (A := r3.toInt) rfl (by omega) ?_
    refine to_an (pc := 15) rw_104_15 rfl ?_
    refine tt_gI (pc := 16) rw_104_16 (g_o hG5 rfl) (v := (M12.2.1 1 9)) rfl ?_
    refine to_isn (pc := 19) rw_104_19 (ls2 := [.ref 28, .ref 1, .int s, .int (M12.2.1 1 9)]) rfl rfl ?_
    refine to_an (pc := 20) rw_104_20 rfl ?_
    refine to_an (pc := 21) rw_104_21 rfl ?_
    refine to_an (pc := 22) rw_104_22 rfl ?_
    refine s_gR (pc := 23) rw_104_23 hG5 rfl (v := 31) rfl ?_
    refine to_in (pc := 26) rw_104_26 rfl ?_
    refine s_v (pc := 27) rw_104_27 (dp0 hd (by decide)) (ls0 := [.ref 28, .ref 1, .ref 31, .int s, .null]) rfl (Nat.le_of_ble_eq_true rfl) (Nat.le_of_ble_eq_true rfl) rfl (to_rc rfl rfl rfl (g_o hG5 rfl)) rfl ?_
    refine E_102y hX (dp1 hd (by decide)) hG5 (by omega) (by omega) p_8 (by omega) (s := s) (t := t) (nn := nn) (a := (x_ns t nn a)) (fun r19 M28 hG21 F20 p_22 p_23 p_24 p_25 p_26 p_27 => ?_)
    have F29 := FR.c F13 F20 tg_129
    rcases (show r19.toInt = 0 ∨ r19.toInt = 1 by omega) with h30 | h30
    · skip
      have p_31 := p_27 (by omega)
      clear p_25 p_26 p_27
      refine b_ine_f (pc := 30) rw_104_30 (A := r19.toInt) rfl (by omega) ?_
      refine to_c (pc := 33) rw_104_33 (x := (0 : Int32)) rfl rfl ?_
      refine s_r1 (pc := 34) rw_104_34 (A := 0) rfl (by decide) ?_
      have k_32 : (0 : Int32).toInt = 0 := rfl
      exact h (0 : Int32) M28 hG21 F29 (by decide) (by decide) p_24 (fun z => by exfalso; omega) (fun _ k9 => winl (by omega) (by omega) (wj_2 (by omega) (by omega)))
    · skip
      have p_33 := p_25 (by omega)
      have p_34 := p_26 (by omega)
      clear p_25 p_26 p_27
      refine b_ine_t (pc := 30) rw_104_30 (A := r19.toInt) rfl (by omega) ?_
      refine to_an (pc := 35) rw_104_35 rfl ?_
      refine s_gR (pc := 36) rw_104_36 hG21 rfl (v := 30) rfl ?_
      refine to_in (pc := 39) rw_104_39 rfl ?_
      refine s_ial (pc := 40) rw_104_40 hG21 rfl (n := 40) rfl rfl (A := s.toInt) rfl (by omega) (by omega) (lo := 0) (hi := 5) rfl rfl (fun v35 w_36 _ _ => ?_)
      have t_37 := congrArg Int32.toInt w_36
      have z_38 := (congrArg Int32.toInt (show M28.2.1 30 ((s.toInt).toNat) = M12.2.1 30 ((s.toInt).toNat) from (F_n F20 (show ¬ (30 = 1 ∧ 6 ≤ ((s.toInt).toNat) ∧ ((s.toInt).toNat) ≤ 11 ∨ 30 = 31) by omega) rfl)))
      refine to_an (pc := 41) rw_104_41 rfl ?_
      refine s_gR (pc := 42) rw_104_42 hG21 rfl (v := 31) rfl ?_
      refine to_in (pc := 45) rw_104_45 rfl ?_
      refine s_ial (pc := 46) rw_104_46 hG21 rfl (n := 40) rfl rfl (A := s.toInt) rfl (by omega) (by omega) (lo := 0) (hi := 5) rfl rfl (fun v39 w_40 _ _ => ?_)
      have t_41 := congrArg Int32.toInt w_40
      have z_42 := (congrArg Int32.toInt (show M28.2.1 31 ((s.toInt).toNat) = M28.2.1 31 ((s.toInt).toNat) from rfl))
      refine b_cne (pc := 47) rw_104_47 (A := v35.toInt) (B := v39.toInt) rfl rfl (fun h43 => ?_) (fun h43 => ?_)
      · refine to_an (pc := 57) rw_104_57 rfl ?_
        refine to_c (pc := 58) rw_104_58 (x := (59 : Int32)) rfl rfl ?_
        refine s_v (pc := 60) rw_104_60 (dp0 hd (by decide)) (ls0 := [.ref 1, .int (59 : Int32)]) rfl (Nat.le_of_ble_eq_true rfl) (Nat.le_of_ble_eq_true rfl) rfl (to_rc rfl rfl rfl (g_o hG21 rfl)) rfl ?_
        have k_44 : (59 : Int32).toInt = 59 := rfl
        refine E_90s hX (dp1 hd (by decide)) hG21 p_24 (by omega) (by omega) (c := (59 : Int32)) (t := t) (nn := nn) (a := (x_ns t nn (x_ns t nn a))) (fun r45 M54 hG47 F46 p_48 p_49 p_50 p_51 p_52 p_53 => ?_)
        have F55 := FR.c F29 F46 tg_126
        rcases (show r45.toInt = 0 ∨ r45.toInt = 1 by omega) with h56 | h56
        · skip
          have p_57 := p_52 (by omega)
          have p_58 := p_53 (by omega)
          clear p_51 p_52 p_53
          refine s_r1 (pc := 63) rw_104_63 (A := r45.toInt) rfl (by omega) ?_
          exact h r45 M54 hG47 F55 (by omega) (by omega) p_50 (fun z => by exfalso; omega) (fun _ k9 => winl (by omega) (by omega) (wj_4 (by omega) (by omega) (by omega) (by omega)))
        · skip
          have p_59 := p_51 (by omega)
          clear p_51 p_52 p_53
          refine s_r1 (pc := 63) rw_104_63 (A := r45.toInt) rfl (by omega) ?_
          exact h r45 M54 hG47 F55 (by omega) (by omega) p_50 (fun _ k9 => by rw [show (M54.2.1 1 9).toInt = (x_ns t nn (x_ns t nn (x_ns t nn a))) by omega]; exact wj_y (by omega) (by omega) (by omega) (by omega)) (fun z => by exfalso; omega)
      · refine to_an (pc := 50) rw_104_50 rfl ?_
        refine to_c (pc := 51) rw_104_51 (x := (3 : Int32)) rfl rfl ?_
        refine to_in (pc := 52) rw_104_52 rfl ?_
        refine s_v (pc := 53) rw_104_53 (dp0 hd (by decide)) (ls0 := [.ref 1, .int (3 : Int32), .int (M12.2.1 1 9)]) rfl (Nat.le_of_ble_eq_true rfl) (Nat.le_of_ble_eq_true rfl) rfl (to_rc rfl rfl rfl (g_o hG21 rfl)) rfl ?_
        refine to_an (pc := 0) rw_85_0 rfl ?_
        refine to_in (pc := 1) rw_85_1 rfl ?_
        refine s_pI (pc := 2) rw_85_2 hG21 rfl (fun M61 W60 => ?_)
        have hG62 := g_wf hG21 W60 rfl rfl (by decide)
        have F63 := FR.w F29 W60 (show 1 = 1 ∧ 6 ≤ 10 ∧ 10 ≤ 11 ∨ 30 ≤ 1 ∧ 1 ≤ 33 by decide)
        refine to_an (pc := 5) rw_85_5 rfl ?_
        refine to_in (pc := 6) rw_85_6 rfl ?_
        refine s_pI (pc := 7) rw_85_7 hG62 rfl (fun M65 W64 => ?_)
        have hG66 := g_wf hG62 W64 rfl rfl (by decide)
        have F67 := FR.w F63 W64 (show 1 = 1 ∧ 6 ≤ 11 ∧ 11 ≤ 11 ∨ 30 ≤ 1 ∧ 1 ≤ 33 by decide)
        refine to_c (pc := 10) rw_85_10 (x := (0 : Int32)) rfl rfl ?_
        refine s_r1 (pc := 11) rw_85_11 (A := 0) rfl (by decide) ?_
        refine s_r1 (pc := 56) rw_104_56 (A := 0) rfl (by decide) ?_
        have k_68 : (0 : Int32).toInt = 0 := rfl
        have j_69 := (CS_f (fun a i z => W_n W64 (tg_32 a i z) rfl) (CS_f (fun a i z => W_n W60 (tg_33 a i z) rfl) p_24))
        have c_70 : M65.2.1 1 10 = (3 : Int32) := (W_n W64 (by decide) (W_e W60))
        have k_71 : (3 : Int32).toInt = 3 := rfl
        have t_72 : (M65.2.1 1 10).toInt = (3 : Int32).toInt := congrArg Int32.toInt c_70
        have c_73 : M65.2.1 1 11 = (M12.2.1 1 9) := (W_e W64)
        have t_74 : (M65.2.1 1 11).toInt = (M12.2.1 1 9).toInt := congrArg Int32.toInt c_73
        exact h (0 : Int32) M65 hG66 F67 (by decide) (by decide) j_69 (fun z => by exfalso; omega) (fun _ k9 => winl (by omega) (by omega) (wj_3 (by omega) (by omega) (by omega)))
