theorem tg_137 : ∀ a i : Nat, (a = 1 ∧ 6 ≤ i ∧ i ≤ 11) → (a = 1 ∧ 6 ≤ i ∧ i ≤ 11 ∨ 30 ≤ a ∧ a ≤ 33) := fun a i z => by omega
theorem tg_138 : ∀ a i : Nat, (a = 1 ∧ 6 ≤ i ∧ i ≤ 11 ∨ a = 33) → (a = 1 ∧ 6 ≤ i ∧ i ≤ 11 ∨ 30 ≤ a ∧ a ≤ 33) := fun a i z => by omega
theorem tg_139 : ∀ a i : Nat, (a = 1 ∧ 6 ≤ i ∧ i ≤ 11 ∨ a = 30) → (a = 1 ∧ 6 ≤ i ∧ i ≤ 11 ∨ 30 ≤ a ∧ a ≤ 33) := fun a i z => by omega
theorem tg_140 : ∀ a i : Nat, (a = 1 ∧ 6 ≤ i ∧ i ≤ 11 ∨ a = 31) → (a = 1 ∧ 6 ≤ i ∧ i ≤ 11 ∨ 30 ≤ a ∧ a ≤ 33) := fun a i z => by omega
theorem tg_141 : ∀ a i : Nat, (a = 1 ∧ 6 ≤ i ∧ i ≤ 11 ∨ a = 32) → (a = 1 ∧ 6 ≤ i ∧ i ≤ 11 ∨ 30 ≤ a ∧ a ≤ 33) := fun a i z => by omega
set_option maxRecDepth 4000 in
set_option maxHeartbeats 0 in
theorem U_101_0 {X : mm_X} {d : Nat} {M : mm_M} {Q : Option Value → mm_M → Prop} {p : Nat} {s : Int32} {t : Nat → Int} {nn : Int} {a : Int} {sg : x_S} {n9 : Int} {op : List Int} {A9 : x_A} (hX : g_X X) (hd : 3 ≤ d) (hp : p = 49 ∨ p = 58) (q1 : 0 ≤ s.toInt) (q2 : s.toInt ≤ 39) (q3 : CS M t nn) (q4 : (M.2.1 1 9).toInt = a) (q5 : PLs M p sg) (q6 : nn ≤ 500) (h : ∀ (r : Int32) (M1 : mm_M), g_G M1 → FR md_w101 M M1 → (0 ≤ r.toInt) → (r.toInt ≤ 1) → CS M1 t nn → ((r.toInt = 1 → x_wps t nn sg a (x_ww t nn sg 1 n9 op A9) = x_ww t nn sg 0 n9 op A9 (M1.2.1 1 9).toInt)) → ((r.toInt = 0 → x_wps t nn sg a (x_ww t nn sg 1 n9 op A9) = Sum.inl ((M1.2.1 1 10).toInt, (M1.2.1 1 11).toInt))) → (r.toInt = 1 → (M1.2.1 1 10).toInt = (M.2.1 1 10).toInt ∧ (M1.2.1 1 11).toInt = (M.2.1 1 11).toInt) → Q (some (.int r)) M1) : ∀ nn9 : Nat, (∀ (N : mm_M) (x5 : Int32), g_G N → FR md_w101 M N → (0 ≤ x5.toInt) → (x5.toInt ≤ 500) → (x5.toInt ≤ (N.2.1 1 9).toInt) → (0 ≤ s.toInt) → (s.toInt ≤ 39) → (CS N t nn) → (PLs N p sg) → (x_wps t nn sg a (x_ww t nn sg 1 n9 op A9) = x_ww t nn sg 1 n9 op A9 (N.2.1 1 9).toInt) → ((N.2.1 1 10).toInt = (M.2.1 1 10).toInt ∧ (N.2.1 1 11).toInt = (M.2.1 1 11).toInt) → 500 - x5.toInt < (nn9 : Int) → mm_T X d 101 89 [.ref 28, .ref 1, .ref p, .ref 11, .int s, .int x5] [] N Q) := by
  intro nn9
  induction nn9 with
  | zero =>
    intro N x5 hG F0 g1 g2 g3 g4 g5 g6 g7 g8 g9 hm
    exfalso; omega
  | succ nn9 ih =>
    intro N x5 hG F0 g1 g2 g3 g4 g5 g6 g7 g8 g9 hm
    have c_1 := CS_u g6 (a := (N.2.1 1 9).toInt) (by omega)
    unfold x_C at c_1
    have z_2 := fun h9 : nn ≤ (N.2.1 1 9).toInt => (x_t0 (t := t) (n := nn) (a := (N.2.1 1 9).toInt) h9).1
    refine to_i (pc := 89) rw_101_89 rfl ?_
    refine to_c (pc := 91) rw_101_91 (x := (500 : Int32)) rfl rfl ?_
    refine b_cge (pc := 94) rw_101_94 (A := x5.toInt) (B := 500) rfl rfl (fun h3 => ?_) (fun h3 => ?_)
    · refine to_an (pc := 126) rw_101_126 rfl ?_
      refine to_c (pc := 127) rw_101_127 (x := (59 : Int32)) rfl rfl ?_
      refine s_v (pc := 129) rw_101_129 (dp0 hd (by decide)) (ls0 := [.ref 1, .int (59 : Int32)]) rfl (Nat.le_of_ble_eq_true rfl) (Nat.le_of_ble_eq_true rfl) rfl (to_rc rfl rfl rfl (g_o hG rfl)) rfl ?_
      have k_4 : (59 : Int32).toInt = 59 := rfl
      refine E_90s hX (dp1 hd (by decide)) hG g6 (by omega) (by omega) (c := (59 : Int32)) (t := t) (nn := nn) (a := (N.2.1 1 9).toInt) (fun r5 M15 hG7 F6 p_8 p_9 p_10 p_11 p_12 p_13 p_14 => ?_)
      have F16 := FR.c F0 F6 tg_137
      rcases (show r5.toInt = 0 ∨ r5.toInt = 1 by omega) with h17 | h17
      · skip
        have p_18 := p_12 (by omega)
        have p_19 := p_13 (by omega)
        clear p_11 p_12 p_13 p_14
        have z_20 := g8.trans (w1_x (by omega) (by omega) (by omega) (by omega))
        refine s_r1 (pc := 132) rw_101_132 (A := r5.toInt) rfl (by omega) ?_
        exact h r5 M15 hG7 F16 (by omega) (by omega) p_10 (fun z => by exfalso; omega) (fun _ => winl (by omega) (by omega) z_20) (by omega)
      · skip
        have p_21 := p_11 (by omega)
        have p_22 := p_14 (by omega)
        clear p_11 p_12 p_13 p_14
        have z_23 := g8.trans (w1_s (by omega) (by omega) (by omega))
        refine s_r1 (pc := 132) rw_101_132 (A := r5.toInt) rfl (by omega) ?_
        exact h r5 M15 hG7 F16 (by omega) (by omega) p_10 (fun _ => z_23.trans (w_v rfl (by omega))) (fun z => by exfalso; omega) (by omega)
    · refine to_an (pc := 97) rw_101_97 rfl ?_
      refine tt_gI (pc := 98) rw_101_98 (g_o hG rfl) (v := (N.2.1 1 7)) rfl ?_
      refine to_c (pc := 101) rw_101_101 (x := (59 : Int32)) rfl rfl ?_
      refine b_ceq (pc := 103) rw_101_103 (A := (N.2.1 1 7).toInt) (B := 59) rfl rfl (fun h24 => ?_) (fun h24 => ?_)
      · refine to_an (pc := 126) rw_101_126 rfl ?_
        refine to_c (pc := 127) rw_101_127 (x := (59 : Int32)) rfl rfl ?_
        refine s_v (pc := 129) rw_101_129 (dp0 hd (by decide)) (ls0 := [.ref 1, .int (59 : Int32)]) rfl (Nat.le_of_ble_eq_true rfl) (Nat.le_of_ble_eq_true rfl) rfl (to_rc rfl rfl rfl (g_o hG rfl)) rfl ?_
        have k_25 : (59 : Int32).toInt = 59 := rfl
        refine E_90s hX (dp1 hd (by decide)) hG g6 (by omega) (by omega) (c := (59 : Int32)) (t := t) (nn := nn) (a := (N.2.1 1 9).toInt) (fun r26 M36 hG28 F27 p_29 p_30 p_31 p_32 p_33 p_34 p_35 => ?_)
        have F37 := FR.c F0 F27 tg_137
        rcases (show r26.toInt = 0 ∨ r26.toInt = 1 by omega) with h38 | h38
        · skip
          have p_39 := p_33 (by omega)
          have p_40 := p_34 (by omega)
          clear p_32 p_33 p_34 p_35
          have z_41 := g8.trans (w1_x (by omega) (by omega) (by omega) (by omega))
          refine s_r1 (pc := 132) rw_101_132 (A := r26.toInt) rfl (by omega) ?_
          exact h r26 M36 hG28 F37 (by omega) (by omega) p_31 (fun z => by exfalso; omega) (fun _ => winl (by omega) (by omega) z_41) (by omega)
        · skip
          have p_42 := p_32 (by omega)
          have p_43 := p_35 (by omega)
          clear p_32 p_33 p_34 p_35
          have z_44 := g8.trans (w1_s (by omega) (by omega) (by omega))
          refine s_r1 (pc := 132) rw_101_132 (A := r26.toInt) rfl (by omega) ?_
          exact h r26 M36 hG28 F37 (by omega) (by omega) p_31 (fun _ => z_44.trans (w_v rfl (by omega))) (fun z => by exfalso; omega) (by omega)
      · refine to_an (pc := 106) rw_101_106 rfl ?_
        refine to_an (pc := 107) rw_101_107 rfl ?_
        refine to_an (pc := 108) rw_101_108 rfl ?_
        refine to_an (pc := 109) rw_101_109 rfl ?_
        refine to_i (pc := 110) rw_101_110 rfl ?_
        refine s_v (pc := 112) rw_101_112 (dp0 hd (by decide)) (ls0 := [.ref 28, .ref 1, .ref p, .ref 11, .int s, .null, .null, .null, .null]) rfl (Nat.le_of_ble_eq_true rfl) (Nat.le_of_ble_eq_true rfl) rfl (to_rc rfl rfl rfl (g_o hG rfl)) rfl ?_
        refine E_103 hX (dp1 hd (by decide)) hG hp (by omega) (by omega) g6 (by omega) g7 (p := p) (s := s) (t := t) (nn := nn) (a := (N.2.1 1 9).toInt) (sg := sg) (fun r45 M55 hG47 F46 p_48 p_49 p_50 p_51 p_52 p_53 p_54 => ?_)
        have F56 := FR.c F0 F46 tg_138
        rcases (show r45.toInt = 0 ∨ r45.toInt = 1 by omega) with h57 | h57
        · skip
          have p_58 := p_53 (by omega)
          clear p_51 p_52 p_53 p_54
          have z_59 := g8.trans (w1_nx (by omega) (by omega) (by omega) p_58)
          refine b_ine_f (pc := 115) rw_101_115 (A := r45.toInt) rfl (by omega) ?_
          refine to_c (pc := 118) rw_101_118 (x := (0 : Int32)) rfl rfl ?_
          refine s_r1 (pc := 119) rw_101_119 (A := 0) rfl (by decide) ?_
          have k_60 : (0 : Int32).toInt = 0 := rfl
          exact h (0 : Int32) M55 hG47 F56 (by decide) (by decide) p_50 (fun z => by exfalso; omega) (fun _ => winl (by omega) (by omega) z_59) (by omega)
        · skip
          have p_61 := p_51 (by omega)
          have p_62 := p_52 (by omega)
          have p_63 := p_54 (by omega)
          clear p_51 p_52 p_53 p_54
          have z_64 := g8.trans (w1_ny (by omega) (by omega) p_62)
          refine b_ine_t (pc := 115) rw_101_115 (A := r45.toInt) rfl (by omega) ?_
          refine s_inc (pc := 120) rw_101_120 (ls2 := fun v => [.ref 28, .ref 1, .ref p, .ref 11, .int s, .int v]) rfl rfl (fun _ => rfl) (A := x5.toInt) (B := 1) rfl rfl (by omega) (fun v65 e66 => ?_)
          refine to_go (pc := 123) rw_101_123 ?_
          have j_67 := (PLs_f (fun a i z => F_n F46 (show ¬ (a = 1 ∧ 6 ≤ i ∧ i ≤ 11 ∨ a = 33) by omega) rfl) g7)
          exact ih M55 v65 hG47 F56 (by omega) (by omega) (by omega) (by omega) (by omega) p_50 j_67 z_64 (by omega) (by omega)
set_option maxRecDepth 4000 in
set_option maxHeartbeats 0 in
theorem E_101 {X : mm_X} {d : Nat} {M : mm_M} {Q : Option Value → mm_M → Prop} {p : Nat} {s : Int32} {t : Nat → Int} {nn : Int} {a : Int} {sg : x_S} {n9 : Int} {op : List Int} {A9 : x_A} (hX : g_X X) (hd : 3 ≤ d) (hG : g_G M) (hp : p = 49 ∨ p = 58) (q1 : 0 ≤ s.toInt) (q2 : s.toInt ≤ 39) (q3 : CS M t nn) (q4 : (M.2.1 1 9).toInt = a) (q5 : PLs M p sg) (q6 : nn ≤ 500) (h : ∀ (r : Int32) (M1 : mm_M), g_G M1 → FR md_w101 M M1 → (0 ≤ r.toInt) → (r.toInt ≤ 1) → CS M1 t nn → ((r.toInt = 1 → x_wps t nn sg a (x_ww t nn sg 1 n9 op A9) = x_ww t nn sg 0 n9 op A9 (M1.2.1 1 9).toInt)) → ((r.toInt = 0 → x_wps t nn sg a (x_ww t nn sg 1 n9 op A9) = Sum.inl ((M1.2.1 1 10).toInt, (M1.2.1 1 11).toInt))) → (r.toInt = 1 → (M1.2.1 1 10).toInt = (M.2.1 1 10).toInt ∧ (M1.2.1 1 11).toInt = (M.2.1 1 11).toInt) → Q (some (.int r)) M1) : mm_T X d 101 0 [.ref 28, .ref 1, .ref p, .ref 11, .int s, .null] [] M Q := by
  have F0 : FR md_w101 M M := FR.rf
  have c_68 := CS_u q3 (a := a) (by omega)
  unfold x_C at c_68
  refine to_an (pc := 0) rw_101_0 rfl ?_
  refine to_an (pc := 1) rw_101_1 rfl ?_
  refine to_an (pc := 2) rw_101_2 rfl ?_
  refine s_gR (pc := 3) rw_101_3 hG rfl (v := 30) rfl ?_
  refine to_i (pc := 6) rw_101_6 rfl ?_
  refine s_v (pc := 8) rw_101_8 (dp0 hd (by decide)) (ls0 := [.ref 28, .ref 1, .ref 30, .int s, .null]) rfl (Nat.le_of_ble_eq_true rfl) (Nat.le_of_ble_eq_true rfl) rfl (to_rc rfl rfl rfl (g_o hG rfl)) rfl ?_
  refine E_102x hX (dp1 hd (by decide)) hG (by omega) (by omega) q3 (by omega) (s := s) (t := t) (nn := nn) (a := a) (fun r69 M79 hG71 F70 p_72 p_73 p_74 p_75 p_76 p_77 p_78 => ?_)
  have F80 := FR.c F0 F70 tg_139
  rcases (show r69.toInt = 0 ∨ r69.toInt = 1 by omega) with h81 | h81
  · skip
    have p_82 := p_77 (by omega)
    clear p_75 p_76 p_77 p_78
    have z_83 : x_wps t nn sg a (x_ww t nn sg 1 n9 op A9) = Sum.inl (1, a) := p_wpx (by omega)
    refine b_ieq_t (pc := 11) rw_101_11 (A := r69.toInt) rfl (by omega) ?_
    refine to_c (pc := 23) rw_101_23 (x := (0 : Int32)) rfl rfl ?_
    refine s_r1 (pc := 24) rw_101_24 (A := 0) rfl (by decide) ?_
    have k_84 : (0 : Int32).toInt = 0 := rfl
    exact h (0 : Int32) M79 hG71 F80 (by decide) (by decide) p_74 (fun z => by exfalso; omega) (fun _ => winl (by omega) (by omega) z_83) (by omega)
  · skip
    have p_85 := p_75 (by omega)
    have p_86 := p_76 (by omega)
    have p_87 := p_78 (by omega)
    clear p_75 p_76 p_77 p_78
    have z_88 : x_wps t nn sg a (x_ww t nn sg 1 n9 op A9) = x_wy2 t nn 8 (x_ns t nn a) (fun c => x_wp t nn c (fun d => x_wp t nn d (fun e => x_wy2 t nn 9 e (fun g => x_wnd t nn sg g (x_ww t nn sg 1 n9 op A9))))) := p_wp (by omega)
    have z_89 := x_ns_b (t := t) (n := nn) (a := a) (by omega) (by omega)
    refine b_ieq_f (pc := 11) rw_101_11 (A := r69.toInt) rfl (by omega) ?_
    refine to_an (pc := 14) rw_101_14 rfl ?_
    refine to_c (pc := 15) rw_101_15 (x := (686817280 : Int32)) rfl rfl ?_
    refine s_v (pc := 17) rw_101_17 (dp0 hd (by decide)) (ls0 := [.ref 1, .int (686817280 : Int32)]) rfl (Nat.le_of_ble_eq_true rfl) (Nat.le_of_ble_eq_true rfl) rfl (to_rc rfl rfl rfl (g_o hG71 rfl)) rfl ?_
    have k_90 : (686817280 : Int32).toInt = 686817280 := rfl
    refine E_89 hX (dp1 hd (by decide)) hG71 p_74 (by omega) (by omega) (c := (686817280 : Int32)) (t := t) (nn := nn) (a := (x_ns t nn a)) (fun r91 M101 hG93 F92 p_94 p_95 p_96 p_97 p_98 p_99 p_100 => ?_)
    have F102 := FR.c F80 F92 tg_137
    rcases (show r91.toInt = 0 ∨ r91.toInt = 1 by omega) with h103 | h103
    · skip
      have p_104 := p_98 (by omega)
      have p_105 := p_99 (by omega)
      clear p_97 p_98 p_99 p_100
      have z_106 : x_wps t nn sg a (x_ww t nn sg 1 n9 op A9) = Sum.inl (1, (x_ns t nn a)) := z_88.trans (p_wyx (fun z => by have := (x_kx_w2 (x_val t nn (x_ns t nn a))).2.1.mp z.2; omega))
      refine b_ine_f (pc := 20) rw_101_20 (A := r91.toInt) rfl (by omega) ?_
      refine to_c (pc := 23) rw_101_23 (x := (0 : Int32)) rfl rfl ?_
      refine s_r1 (pc := 24) rw_101_24 (A := 0) rfl (by decide) ?_
      have k_107 : (0 : Int32).toInt = 0 := rfl
      exact h (0 : Int32) M101 hG93 F102 (by decide) (by decide) p_96 (fun z => by exfalso; omega) (fun _ => winl (by omega) (by omega) z_106) (by omega)
    · skip
      have p_108 := p_97 (by omega)
      have p_109 := p_100 (by omega)
      clear p_97 p_98 p_99 p_100
      have z_110 : x_wps t nn sg a (x_ww t nn sg 1 n9 op A9) = x_wp t nn (x_ns t nn (x_ns t nn a)) (fun d => x_wp t nn d (fun e => x_wy2 t nn 9 e (fun g => x_wnd t nn sg g (x_ww t nn sg 1 n9 op A9)))) := z_88.trans (p_wy ⟨by omega, (x_kx_w2 (x_val t nn (x_ns t nn a))).2.1.mpr (by omega)⟩)
      have z_111 := x_ns_b (t := t) (n := nn) (a := (x_ns t nn a)) (by omega) (by omega)
      refine b_ine_t (pc := 20) rw_101_20 (A := r91.toInt) rfl (by omega) ?_
      refine to_an (pc := 25) rw_101_25 rfl ?_
      refine to_an (pc := 26) rw_101_26 rfl ?_
      refine to_an (pc := 27) rw_101_27 rfl ?_
      refine s_gR (pc := 28) rw_101_28 hG93 rfl (v := 31) rfl ?_
      refine to_i (pc := 31) rw_101_31 rfl ?_
      refine s_v (pc := 33) rw_101_33 (dp0 hd (by decide)) (ls0 := [.ref 28, .ref 1, .ref 31, .int s, .null]) rfl (Nat.le_of_ble_eq_true rfl) (Nat.le_of_ble_eq_true rfl) rfl (to_rc rfl rfl rfl (g_o hG93 rfl)) rfl ?_
      refine E_102y hX (dp1 hd (by decide)) hG93 (by omega) (by omega) p_96 (by omega) (s := s) (t := t) (nn := nn) (a := (x_ns t nn (x_ns t nn a))) (fun r112 M122 hG114 F113 p_115 p_116 p_117 p_118 p_119 p_120 p_121 => ?_)
      have F123 := FR.c F102 F113 tg_140
      rcases (show r112.toInt = 0 ∨ r112.toInt = 1 by omega) with h124 | h124
      · skip
        have p_125 := p_120 (by omega)
        clear p_118 p_119 p_120 p_121
        have z_126 : x_wps t nn sg a (x_ww t nn sg 1 n9 op A9) = Sum.inl (1, (x_ns t nn (x_ns t nn a))) := z_110.trans (p_wpx (by omega))
        refine b_ieq_t (pc := 36) rw_101_36 (A := r112.toInt) rfl (by omega) ?_
        refine to_c (pc := 62) rw_101_62 (x := (0 : Int32)) rfl rfl ?_
        refine s_r1 (pc := 63) rw_101_63 (A := 0) rfl (by decide) ?_
        have k_127 : (0 : Int32).toInt = 0 := rfl
        exact h (0 : Int32) M122 hG114 F123 (by decide) (by decide) p_117 (fun z => by exfalso; omega) (fun _ => winl (by omega) (by omega) z_126) (by omega)
      · skip
        have p_128 := p_118 (by omega)
        have p_129 := p_119 (by omega)
        have p_130 := p_121 (by omega)
        clear p_118 p_119 p_120 p_121
        have z_131 : x_wps t nn sg a (x_ww t nn sg 1 n9 op A9) = x_wp t nn (x_ns t nn (x_ns t nn (x_ns t nn a))) (fun e => x_wy2 t nn 9 e (fun g => x_wnd t nn sg g (x_ww t nn sg 1 n9 op A9))) := z_110.trans (p_wp (by omega))
        have z_132 := x_ns_b (t := t) (n := nn) (a := (x_ns t nn (x_ns t nn a))) (by omega) (by omega)
        refine b_ieq_f (pc := 36) rw_101_36 (A := r112.toInt) rfl (by omega) ?_
        refine to_an (pc := 39) rw_101_39 rfl ?_
        refine to_an (pc := 40) rw_101_40 rfl ?_
        refine to_an (pc := 41) rw_101_41 rfl ?_
        refine s_gR (pc := 42) rw_101_42 hG114 rfl (v := 32) rfl ?_
        refine to_i (pc := 45) rw_101_45 rfl ?_
        refine s_v (pc := 47) rw_101_47 (dp0 hd (by decide)) (ls0 := [.ref 28, .ref 1, .ref 32, .int s, .null]) rfl (Nat.le_of_ble_eq_true rfl) (Nat.le_of_ble_eq_true rfl) rfl (to_rc rfl rfl rfl (g_o hG114 rfl)) rfl ?_
        refine E_102z hX (dp1 hd (by decide)) hG114 (by omega) (by omega) p_117 (by omega) (s := s) (t := t) (nn := nn) (a := (x_ns t nn (x_ns t nn (x_ns t nn a)))) (fun r133 M143 hG135 F134 p_136 p_137 p_138 p_139 p_140 p_141 p_142 => ?_)
        have F144 := FR.c F123 F134 tg_141
        rcases (show r133.toInt = 0 ∨ r133.toInt = 1 by omega) with h145 | h145
        · skip
          have p_146 := p_141 (by omega)
          clear p_139 p_140 p_141 p_142
          have z_147 : x_wps t nn sg a (x_ww t nn sg 1 n9 op A9) = Sum.inl (1, (x_ns t nn (x_ns t nn (x_ns t nn a)))) := z_131.trans (p_wpx (by omega))
          refine b_ieq_t (pc := 50) rw_101_50 (A := r133.toInt) rfl (by omega) ?_
          refine to_c (pc := 62) rw_101_62 (x := (0 : Int32)) rfl rfl ?_
          refine s_r1 (pc := 63) rw_101_63 (A := 0) rfl (by decide) ?_
          have k_148 : (0 : Int32).toInt = 0 := rfl
          exact h (0 : Int32) M143 hG135 F144 (by decide) (by decide) p_138 (fun z => by exfalso; omega) (fun _ => winl (by omega) (by omega) z_147) (by omega)
        · skip
          have p_149 := p_139 (by omega)
          have p_150 := p_140 (by omega)
          have p_151 := p_142 (by omega)
          clear p_139 p_140 p_141 p_142
          have z_152 : x_wps t nn sg a (x_ww t nn sg 1 n9 op A9) = x_wy2 t nn 9 (x_ns t nn (x_ns t nn (x_ns t nn (x_ns t nn a)))) (fun g => x_wnd t nn sg g (x_ww t nn sg 1 n9 op A9)) := z_131.trans (p_wp (by omega))
          have z_153 := x_ns_b (t := t) (n := nn) (a := (x_ns t nn (x_ns t nn (x_ns t nn a)))) (by omega) (by omega)
          refine b_ieq_f (pc := 50) rw_101_50 (A := r133.toInt) rfl (by omega) ?_
          refine to_an (pc := 53) rw_101_53 rfl ?_
          refine to_c (pc := 54) rw_101_54 (x := (93323264 : Int32)) rfl rfl ?_
          refine s_v (pc := 56) rw_101_56 (dp0 hd (by decide)) (ls0 := [.ref 1, .int (93323264 : Int32)]) rfl (Nat.le_of_ble_eq_true rfl) (Nat.le_of_ble_eq_true rfl) rfl (to_rc rfl rfl rfl (g_o hG135 rfl)) rfl ?_
          have k_154 : (93323264 : Int32).toInt = 93323264 := rfl
          refine E_89 hX (dp1 hd (by decide)) hG135 p_138 (by omega) (by omega) (c := (93323264 : Int32)) (t := t) (nn := nn) (a := (x_ns t nn (x_ns t nn (x_ns t nn (x_ns t nn a))))) (fun r155 M165 hG157 F156 p_158 p_159 p_160 p_161 p_162 p_163 p_164 => ?_)
          have F166 := FR.c F144 F156 tg_137
          rcases (show r155.toInt = 0 ∨ r155.toInt = 1 by omega) with h167 | h167
          · skip
            have p_168 := p_162 (by omega)
            have p_169 := p_163 (by omega)
            clear p_161 p_162 p_163 p_164
            have z_170 : x_wps t nn sg a (x_ww t nn sg 1 n9 op A9) = Sum.inl (1, (x_ns t nn (x_ns t nn (x_ns t nn (x_ns t nn a))))) := z_152.trans (p_wyx (fun z => by have := (x_kx_w2 (x_val t nn (x_ns t nn (x_ns t nn (x_ns t nn (x_ns t nn a)))))).2.2.1.mp z.2; omega))
            refine b_ine_f (pc := 59) rw_101_59 (A := r155.toInt) rfl (by omega) ?_
            refine to_c (pc := 62) rw_101_62 (x := (0 : Int32)) rfl rfl ?_
            refine s_r1 (pc := 63) rw_101_63 (A := 0) rfl (by decide) ?_
            have k_171 : (0 : Int32).toInt = 0 := rfl
            exact h (0 : Int32) M165 hG157 F166 (by decide) (by decide) p_160 (fun z => by exfalso; omega) (fun _ => winl (by omega) (by omega) z_170) (by omega)
          · skip
            have p_172 := p_161 (by omega)
            have p_173 := p_164 (by omega)
            clear p_161 p_162 p_163 p_164
            have z_174 : x_wps t nn sg a (x_ww t nn sg 1 n9 op A9) = x_wnd t nn sg (x_ns t nn (x_ns t nn (x_ns t nn (x_ns t nn (x_ns t nn a))))) (x_ww t nn sg 1 n9 op A9) := z_152.trans (p_wy ⟨by omega, (x_kx_w2 (x_val t nn (x_ns t nn (x_ns t nn (x_ns t nn (x_ns t nn a)))))).2.2.1.mpr (by omega)⟩)
            have z_175 := x_ns_b (t := t) (n := nn) (a := (x_ns t nn (x_ns t nn (x_ns t nn (x_ns t nn a))))) (by omega) (by omega)
            refine b_ine_t (pc := 59) rw_101_59 (A := r155.toInt) rfl (by omega) ?_
            refine to_an (pc := 64) rw_101_64 rfl ?_
            refine s_gR (pc := 65) rw_101_65 hG157 rfl (v := 33) rfl ?_
            refine to_i (pc := 68) rw_101_68 rfl ?_
            refine to_cl (pc := 70) rw_101_70 rfl (x := (0 : Int64)) rfl ?_
            refine s_las (pc := 71) rw_101_71 hG157 rfl (n := 40) rfl (A := s.toInt) rfl (by omega) (by omega) (fun M177 W176 => ?_)
            have hG178 := g_wl hG157 W176
            have F179 := FR.wl F166 W176 (show 33 = 1 ∧ 6 ≤ (s.toInt).toNat ∧ (s.toInt).toNat ≤ 11 ∨ 30 ≤ 33 ∧ 33 ≤ 33 by omega)
            refine to_an (pc := 72) rw_101_72 rfl ?_
            refine to_an (pc := 73) rw_101_73 rfl ?_
            refine to_an (pc := 74) rw_101_74 rfl ?_
            refine to_an (pc := 75) rw_101_75 rfl ?_
            refine to_i (pc := 76) rw_101_76 rfl ?_
            refine s_v (pc := 78) rw_101_78 (dp0 hd (by decide)) (ls0 := [.ref 28, .ref 1, .ref p, .ref 11, .int s, .null, .null, .null, .null]) rfl (Nat.le_of_ble_eq_true rfl) (Nat.le_of_ble_eq_true rfl) rfl (to_rc rfl rfl rfl (g_o hG178 rfl)) rfl ?_
            have c_180 : M177.2.1 1 10 = (M165.2.1 1 10) := (W_l W176 rfl)
            have t_181 : (M177.2.1 1 10).toInt = (M165.2.1 1 10).toInt := congrArg Int32.toInt c_180
            have c_182 : M177.2.1 1 11 = (M165.2.1 1 11) := (W_l W176 rfl)
            have t_183 : (M177.2.1 1 11).toInt = (M165.2.1 1 11).toInt := congrArg Int32.toInt c_182
            have j_184 := (CS_f (fun a i z => W_l W176 rfl) p_160)
            have c_185 : M177.2.1 1 9 = (M165.2.1 1 9) := (W_l W176 rfl)
            have t_186 : (M177.2.1 1 9).toInt = (M165.2.1 1 9).toInt := congrArg Int32.toInt c_185
            have j_187 := (PLs_f (fun a i z => W_l W176 rfl) (PLs_f (fun a i z => F_n F156 (show ¬ (a = 1 ∧ 6 ≤ i ∧ i ≤ 11) by omega) rfl) (PLs_f (fun a i z => F_n F134 (show ¬ (a = 1 ∧ 6 ≤ i ∧ i ≤ 11 ∨ a = 32) by omega) rfl) (PLs_f (fun a i z => F_n F113 (show ¬ (a = 1 ∧ 6 ≤ i ∧ i ≤ 11 ∨ a = 31) by omega) rfl) (PLs_f (fun a i z => F_n F92 (show ¬ (a = 1 ∧ 6 ≤ i ∧ i ≤ 11) by omega) rfl) (PLs_f (fun a i z => F_n F70 (show ¬ (a = 1 ∧ 6 ≤ i ∧ i ≤ 11 ∨ a = 30) by omega) rfl) q5))))))
            refine E_103 hX (dp1 hd (by decide)) hG178 hp (by omega) (by omega) j_184 (by omega) j_187 (p := p) (s := s) (t := t) (nn := nn) (a := (x_ns t nn (x_ns t nn (x_ns t nn (x_ns t nn (x_ns t nn a)))))) (sg := sg) (fun r188 M198 hG190 F189 p_191 p_192 p_193 p_194 p_195 p_196 p_197 => ?_)
            have F199 := FR.c F179 F189 tg_138
            rcases (show r188.toInt = 0 ∨ r188.toInt = 1 by omega) with h200 | h200
            · skip
              have p_201 := p_196 (by omega)
              clear p_194 p_195 p_196 p_197
              have z_202 := z_174.trans (p_201 (x_ww t nn sg 1 n9 op A9))
              refine b_ine_f (pc := 81) rw_101_81 (A := r188.toInt) rfl (by omega) ?_
              refine to_c (pc := 84) rw_101_84 (x := (0 : Int32)) rfl rfl ?_
              refine s_r1 (pc := 85) rw_101_85 (A := 0) rfl (by decide) ?_
              have k_203 : (0 : Int32).toInt = 0 := rfl
              exact h (0 : Int32) M198 hG190 F199 (by decide) (by decide) p_193 (fun z => by exfalso; omega) (fun _ => winl (by omega) (by omega) z_202) (by omega)
            · skip
              have p_204 := p_194 (by omega)
              have p_205 := p_195 (by omega)
              have p_206 := p_197 (by omega)
              clear p_194 p_195 p_196 p_197
              have z_207 := z_174.trans (p_205 (x_ww t nn sg 1 n9 op A9))
              refine b_ine_t (pc := 81) rw_101_81 (A := r188.toInt) rfl (by omega) ?_
              refine to_c (pc := 86) rw_101_86 (x := (0 : Int32)) rfl rfl ?_
              refine to_is (pc := 87) rw_101_87 (ls2 := [.ref 28, .ref 1, .ref p, .ref 11, .int s, .int (0 : Int32)]) rfl rfl ?_
              have k_208 : (0 : Int32).toInt = 0 := rfl
              have j_209 := (PLs_f (fun a i z => F_n F189 (show ¬ (a = 1 ∧ 6 ≤ i ∧ i ≤ 11 ∨ a = 33) by omega) rfl) j_187)
              exact (U_101_0 (p := p) (s := s) (t := t) (nn := nn) (a := a) (sg := sg) (n9 := n9) (op := op) (A9 := A9) hX hd hp q1 q2 q3 q4 q5 q6 h ((500 - (0 : Int32).toInt).toNat + 1)) M198 (0 : Int32) hG190 F199 (by omega) (by omega) (by omega) (by omega) (by omega) p_193 j_209 z_207 (by omega) (by omega)
set_option maxRecDepth 4000 in
set_option maxHeartbeats 0 in
theorem E_104 {X : mm_X} {d : Nat} {M : mm_M} {Q : Option Value → mm_M → Prop} {s : Int32} {t : Nat → Int} {nn : Int} {a : Int} (hX : g_X X) (hd : 2 ≤ d) (hG : g_G M) (q1 : 0 ≤ s.toInt) (q2 : s.toInt ≤ 39) (q3 : CS M t nn) (q4 : (M.2.1 1 9).toInt = a) (h : ∀ (r : Int32) (M1 : mm_M), g_G M1 → FR md_w101 M M1 → (0 ≤ r.toInt) → (r.toInt ≤ 1) → CS M1 t nn → ((r.toInt = 1 → ∀ k : Int → x_WR, x_wjn t nn a k = k (M1.2.1 1 9).toInt)) → ((r.toInt = 0 → ∀ k : Int → x_WR, x_wjn t nn a k = Sum.inl ((M1.2.1 1 10).toInt, (M1.2.1 1 11).toInt))) → (r.toInt = 1 → (M1.2.1 1 10).toInt = (M.2.1 1 10).toInt ∧ (M1.2.1 1 11).toInt = (M.2.1 1 11).toInt) → Q (some (.int r)) M1) : mm_T X d 104 0 [.ref 28, .ref 1, .int s, .null] [] M Q := by
  have F0 : FR md_w101 M M := FR.rf
  have z_1 := x_pk_b (t := t) (nn := nn) (a := a)
  have z_2 := x_pk_b (t := t) (nn := nn) (a := (x_ns t nn a))
  refine to_an (pc := 0) rw_104_0 rfl ?_
  refine to_an (pc := 1) rw_104_1 rfl ?_
  refine to_an (pc := 2) rw_104_2 rfl ?_
  refine s_gR (pc := 3) rw_104_3 hG rfl (v := 30) rfl ?_
  refine to_in (pc := 6) rw_104_6 rfl ?_
  refine s_v (pc := 7) rw_104_7 (dp0 hd (by decide)) (ls0 := [.ref 28, .ref 1, .ref 30, .int s, .null]) rfl (Nat.le_of_ble_eq_true rfl) (Nat.le_of_ble_eq_true rfl) rfl (to_rc rfl rfl rfl (g_o hG rfl)) rfl ?_
  refine E_102x hX (dp1 hd (by decide)) hG (by omega) (by omega) q3 (by omega) (s := s) (t := t) (nn := nn) (a := a) (fun r3 M13 hG5 F4 p_6 p_7 p_8 p_9 p_10 p_11 p_12 => ?_)
  have F14 := FR.c F0 F4 tg_139
  rcases (show r3.toInt = 0 ∨ r3.toInt = 1 by omega) with h15 | h15
  · skip
    have p_16 := p_11 (by omega)
    clear p_9 p_10 p_11 p_12
    refine b_ine_f (pc := 10) rw_104_10 (A := r3.toInt) rfl (by omega) ?_
    refine to_c (pc := 13) rw_104_13 (x := (0 : Int32)) rfl rfl ?_
    refine s_r1 (pc := 14) rw_104_14 (A := 0) rfl (by decide) ?_
    have k_17 : (0 : Int32).toInt = 0 := rfl
    exact h (0 : Int32) M13 hG5 F14 (by decide) (by decide) p_8 (fun z => by exfalso; omega) (fun _ k9 => winl (by omega) (by omega) (wj_1 (by omega))) (by omega)
  · skip
    have p_18 := p_9 (by omega)
    have p_19 := p_10 (by omega)
    have p_20 := p_12 (by omega)
    clear p_9 p_10 p_11 p_12
    refine b_ine_t (pc := 10) rw_104_10 (A := r3.toInt) rfl (by omega) ?_
    refine to_an (pc := 15) rw_104_15 rfl ?_
    refine tt_gI (pc := 16) rw_104_16 (g_o hG5 rfl) (v := (M13.2.1 1 9)) rfl ?_
    refine to_isn (pc := 19) rw_104_19 (ls2 := [.ref 28, .ref 1, .int s, .int (M13.2.1 1 9)]) rfl rfl ?_
    refine to_an (pc := 20) rw_104_20 rfl ?_
    refine to_an (pc := 21) rw_104_21 rfl ?_
    refine to_an (pc := 22) rw_104_22 rfl ?_
    refine s_gR (pc := 23) rw_104_23 hG5 rfl (v := 31) rfl ?_
    refine to_in (pc := 26) rw_104_26 rfl ?_
    refine s_v (pc := 27) rw_104_27 (dp0 hd (by decide)) (ls0 := [.ref 28, .ref 1, .ref 31, .int s, .null]) rfl (Nat.le_of_ble_eq_true rfl) (Nat.le_of_ble_eq_true rfl) rfl (to_rc rfl rfl rfl (g_o hG5 rfl)) rfl ?_
    refine E_102y hX (dp1 hd (by decide)) hG5 (by omega) (by omega) p_8 (by omega) (s := s) (t := t) (nn := nn) (a := (x_ns t nn a)) (fun r21 M31 hG23 F22 p_24 p_25 p_26 p_27 p_28 p_29 p_30 => ?_)
    have F32 := FR.c F14 F22 tg_140
    rcases (show r21.toInt = 0 ∨ r21.toInt = 1 by omega) with h33 | h33
    · skip
      have p_34 := p_29 (by omega)
      clear p_27 p_28 p_29 p_30
      refine b_ine_f (pc := 30) rw_104_30 (A := r21.toInt) rfl (by omega) ?_
      refine to_c (pc := 33) rw_104_33 (x := (0 : Int32)) rfl rfl ?_
      refine s_r1 (pc := 34) rw_104_34 (A := 0) rfl (by decide) ?_
      have k_35 : (0 : Int32).toInt = 0 := rfl
      exact h (0 : Int32) M31 hG23 F32 (by decide) (by decide) p_26 (fun z => by exfalso; omega) (fun _ k9 => winl (by omega) (by omega) (wj_2 (by omega) (by omega))) (by omega)
    · skip
      have p_36 := p_27 (by omega)
      have p_37 := p_28 (by omega)
      have p_38 := p_30 (by omega)
      clear p_27 p_28 p_29 p_30
      refine b_ine_t (pc := 30) rw_104_30 (A := r21.toInt) rfl (by omega) ?_
      refine to_an (pc := 35) rw_104_35 rfl ?_
      refine s_gR (pc := 36) rw_104_36 hG23 rfl (v := 30) rfl ?_
      refine to_in (pc := 39) rw_104_39 rfl ?_
      refine s_ial (pc := 40) rw_104_40 hG23 rfl (n := 40) rfl rfl (A := s.toInt) rfl (by omega) (by omega) (lo := 0) (hi := 5) rfl rfl (fun v39 w_40 _ _ => ?_)
      have t_41 := congrArg Int32.toInt w_40
      have z_42 := (congrArg Int32.toInt (show M31.2.1 30 ((s.toInt).toNat) = M13.2.1 30 ((s.toInt).toNat) from (F_n F22 (show ¬ (30 = 1 ∧ 6 ≤ ((s.toInt).toNat) ∧ ((s.toInt).toNat) ≤ 11 ∨ 30 = 31) by omega) rfl)))
      refine to_an (pc := 41) rw_104_41 rfl ?_
      refine s_gR (pc := 42) rw_104_42 hG23 rfl (v := 31) rfl ?_
      refine to_in (pc := 45) rw_104_45 rfl ?_
      refine s_ial (pc := 46) rw_104_46 hG23 rfl (n := 40) rfl rfl (A := s.toInt) rfl (by omega) (by omega) (lo := 0) (hi := 5) rfl rfl (fun v43 w_44 _ _ => ?_)
      have t_45 := congrArg Int32.toInt w_44
      have z_46 := (congrArg Int32.toInt (show M31.2.1 31 ((s.toInt).toNat) = M31.2.1 31 ((s.toInt).toNat) from rfl))
      refine b_cne (pc := 47) rw_104_47 (A := v39.toInt) (B := v43.toInt) rfl rfl (fun h47 => ?_) (fun h47 => ?_)
      · refine to_an (pc := 57) rw_104_57 rfl ?_
        refine to_c (pc := 58) rw_104_58 (x := (59 : Int32)) rfl rfl ?_
        refine s_v (pc := 60) rw_104_60 (dp0 hd (by decide)) (ls0 := [.ref 1, .int (59 : Int32)]) rfl (Nat.le_of_ble_eq_true rfl) (Nat.le_of_ble_eq_true rfl) rfl (to_rc rfl rfl rfl (g_o hG23 rfl)) rfl ?_
        have k_48 : (59 : Int32).toInt = 59 := rfl
        refine E_90s hX (dp1 hd (by decide)) hG23 p_26 (by omega) (by omega) (c := (59 : Int32)) (t := t) (nn := nn) (a := (x_ns t nn (x_ns t nn a))) (fun r49 M59 hG51 F50 p_52 p_53 p_54 p_55 p_56 p_57 p_58 => ?_)
        have F60 := FR.c F32 F50 tg_137
        rcases (show r49.toInt = 0 ∨ r49.toInt = 1 by omega) with h61 | h61
        · skip
          have p_62 := p_56 (by omega)
          have p_63 := p_57 (by omega)
          clear p_55 p_56 p_57 p_58
          refine s_r1 (pc := 63) rw_104_63 (A := r49.toInt) rfl (by omega) ?_
          exact h r49 M59 hG51 F60 (by omega) (by omega) p_54 (fun z => by exfalso; omega) (fun _ k9 => winl (by omega) (by omega) (wj_4 (by omega) (by omega) (by omega) (by omega))) (by omega)
        · skip
          have p_64 := p_55 (by omega)
          have p_65 := p_58 (by omega)
          clear p_55 p_56 p_57 p_58
          refine s_r1 (pc := 63) rw_104_63 (A := r49.toInt) rfl (by omega) ?_
          exact h r49 M59 hG51 F60 (by omega) (by omega) p_54 (fun _ k9 => by rw [show (M59.2.1 1 9).toInt = (x_ns t nn (x_ns t nn (x_ns t nn a))) by omega]; exact wj_y (by omega) (by omega) (by omega) (by omega)) (fun z => by exfalso; omega) (by omega)
      · refine to_an (pc := 50) rw_104_50 rfl ?_
        refine to_c (pc := 51) rw_104_51 (x := (3 : Int32)) rfl rfl ?_
        refine to_in (pc := 52) rw_104_52 rfl ?_
        refine s_v (pc := 53) rw_104_53 (dp0 hd (by decide)) (ls0 := [.ref 1, .int (3 : Int32), .int (M13.2.1 1 9)]) rfl (Nat.le_of_ble_eq_true rfl) (Nat.le_of_ble_eq_true rfl) rfl (to_rc rfl rfl rfl (g_o hG23 rfl)) rfl ?_
        refine to_an (pc := 0) rw_85_0 rfl ?_
        refine to_in (pc := 1) rw_85_1 rfl ?_
        refine s_pI (pc := 2) rw_85_2 hG23 rfl (fun M67 W66 => ?_)
        have hG68 := g_wf hG23 W66 rfl rfl (by decide)
        have F69 := FR.w F32 W66 (show 1 = 1 ∧ 6 ≤ 10 ∧ 10 ≤ 11 ∨ 30 ≤ 1 ∧ 1 ≤ 33 by decide)
        refine to_an (pc := 5) rw_85_5 rfl ?_
        refine to_in (pc := 6) rw_85_6 rfl ?_
        refine s_pI (pc := 7) rw_85_7 hG68 rfl (fun M71 W70 => ?_)
        have hG72 := g_wf hG68 W70 rfl rfl (by decide)
        have F73 := FR.w F69 W70 (show 1 = 1 ∧ 6 ≤ 11 ∧ 11 ≤ 11 ∨ 30 ≤ 1 ∧ 1 ≤ 33 by decide)
        refine to_c (pc := 10) rw_85_10 (x := (0 : Int32)) rfl rfl ?_
        refine s_r1 (pc := 11) rw_85_11 (A := 0) rfl (by decide) ?_
        refine s_r1 (pc := 56) rw_104_56 (A := 0) rfl (by decide) ?_
        have k_74 : (0 : Int32).toInt = 0 := rfl
        have j_75 := (CS_f (fun a i z => W_n W70 (tg_32 a i z) rfl) (CS_f (fun a i z => W_n W66 (tg_33 a i z) rfl) p_26))
        have c_76 : M71.2.1 1 10 = (3 : Int32) := (W_n W70 (by decide) (W_e W66))
        have k_77 : (3 : Int32).toInt = 3 := rfl
        have t_78 : (M71.2.1 1 10).toInt = (3 : Int32).toInt := congrArg Int32.toInt c_76
        have c_79 : M71.2.1 1 11 = (M13.2.1 1 9) := (W_e W70)
        have t_80 : (M71.2.1 1 11).toInt = (M13.2.1 1 9).toInt := congrArg Int32.toInt c_79
        exact h (0 : Int32) M71 hG72 F73 (by decide) (by decide) j_75 (fun z => by exfalso; omega) (fun _ k9 => winl (by omega) (by omega) (wj_3 (by omega) (by omega) (by omega))) (by omega)
