theorem tg_160 : ∀ a i : Nat, (a = 1 ∧ 6 ≤ i ∧ i ≤ 11) → (a = 1 ∧ 6 ≤ i ∧ i ≤ 11 ∨ 30 ≤ a ∧ a ≤ 33) := fun a i z => by omega
theorem tg_161 : ∀ a i : Nat, (a = 1 ∧ 6 ≤ i ∧ i ≤ 11 ∨ a = 33) → (a = 1 ∧ 6 ≤ i ∧ i ≤ 11 ∨ 30 ≤ a ∧ a ≤ 33) := fun a i z => by omega
theorem tg_162 : ∀ a i : Nat, (a = 1 ∧ 6 ≤ i ∧ i ≤ 11 ∨ a = 30) → (a = 1 ∧ 6 ≤ i ∧ i ≤ 11 ∨ 30 ≤ a ∧ a ≤ 33) := fun a i z => by omega
theorem tg_163 : ∀ a i : Nat, (a = 1 ∧ 6 ≤ i ∧ i ≤ 11 ∨ a = 31) → (a = 1 ∧ 6 ≤ i ∧ i ≤ 11 ∨ 30 ≤ a ∧ a ≤ 33) := fun a i z => by omega
theorem tg_164 : ∀ a i : Nat, (a = 1 ∧ 6 ≤ i ∧ i ≤ 11 ∨ a = 32) → (a = 1 ∧ 6 ≤ i ∧ i ≤ 11 ∨ 30 ≤ a ∧ a ≤ 33) := fun a i z => by omega
set_option maxRecDepth 4000 in
set_option maxHeartbeats 0 in
theorem U_101_0 {X : mm_X} {d : Nat} {M : mm_M} {Q : Option Value → mm_M → Prop} {p : Nat} {s : Int32} {t : Nat → Int} {nn : Int} {a : Int} {sg : x_S} {C9 : Nat → Int64} {n9 : Int} {op : List Int} {A9 : x_A} (hX : g_X X) (hd : 3 ≤ d) (hp : p = 49 ∨ p = 58) (q1 : 0 ≤ s.toInt) (q2 : s.toInt ≤ 39) (q3 : CS M t nn) (q4 : (M.2.1 1 9).toInt = a) (q5 : PLs M p sg) (q6 : ∀ w : Nat, (w : Int) < sg.2.2.1 → M.2.2.1 15 w = C9 w) (q7 : nn ≤ 500) (h : ∀ (r : Int32) (M1 : mm_M), g_G M1 → FR md_w101 M M1 → (0 ≤ r.toInt) → (r.toInt ≤ 1) → CS M1 t nn → ((r.toInt = 1 → (M1.2.1 30 (s.toInt).toNat).toInt = x_kp t nn a ∧ (M1.2.1 31 (s.toInt).toNat).toInt = x_kp t nn (x_ns t nn (x_ns t nn a)) ∧ (M1.2.1 32 (s.toInt).toNat).toInt = x_kp t nn (x_ns t nn (x_ns t nn (x_ns t nn a))) ∧ M1.2.2.1 33 (s.toInt).toNat = x_ndv t nn sg C9 (x_ns t nn (x_ns t nn (x_ns t nn (x_ns t nn (x_ns t nn a))))) 0)) → (∀ i : Nat, ¬ i = (s.toInt).toNat → M1.2.1 30 i = M.2.1 30 i) → (∀ i : Nat, ¬ i = (s.toInt).toNat → M1.2.1 31 i = M.2.1 31 i) → (∀ i : Nat, ¬ i = (s.toInt).toNat → M1.2.1 32 i = M.2.1 32 i) → (∀ i : Nat, ¬ i = (s.toInt).toNat → M1.2.2.1 33 i = M.2.2.1 33 i) → ((r.toInt = 1 → x_wps t nn sg a (x_ww t nn sg 1 n9 op A9) = x_ww t nn sg 0 n9 op A9 (M1.2.1 1 9).toInt)) → ((r.toInt = 0 → x_wps t nn sg a (x_ww t nn sg 1 n9 op A9) = Sum.inl ((M1.2.1 1 10).toInt, (M1.2.1 1 11).toInt))) → Q (some (.int r)) M1) : ∀ nn9 : Nat, (∀ (N : mm_M) (x5 : Int32), g_G N → FR md_w101 M N → (0 ≤ x5.toInt) → (x5.toInt ≤ 500) → (x5.toInt ≤ (N.2.1 1 9).toInt) → (0 ≤ s.toInt) → (s.toInt ≤ 39) → (CS N t nn) → (PLs N p sg) → (∀ w : Nat, (w : Int) < sg.2.2.1 → N.2.2.1 15 w = C9 w) → (∀ i : Nat, ¬ i = (s.toInt).toNat → N.2.1 30 i = M.2.1 30 i) → (∀ i : Nat, ¬ i = (s.toInt).toNat → N.2.1 31 i = M.2.1 31 i) → (∀ i : Nat, ¬ i = (s.toInt).toNat → N.2.1 32 i = M.2.1 32 i) → (∀ i : Nat, ¬ i = (s.toInt).toNat → N.2.2.1 33 i = M.2.2.1 33 i) → ((N.2.1 30 (s.toInt).toNat).toInt = x_kp t nn a ∧ (N.2.1 31 (s.toInt).toNat).toInt = x_kp t nn (x_ns t nn (x_ns t nn a)) ∧ (N.2.1 32 (s.toInt).toNat).toInt = x_kp t nn (x_ns t nn (x_ns t nn (x_ns t nn a)))) → (x_ndv t nn sg C9 (x_ns t nn (x_ns t nn (x_ns t nn (x_ns t nn (x_ns t nn a))))) 0 = x_ndv t nn sg C9 (N.2.1 1 9).toInt (N.2.2.1 33 (s.toInt).toNat)) → (x_wps t nn sg a (x_ww t nn sg 1 n9 op A9) = x_ww t nn sg 1 n9 op A9 (N.2.1 1 9).toInt) → 500 - x5.toInt < (nn9 : Int) → mm_T X d 101 89 [.ref 28, .ref 1, .ref p, .ref 11, .int s, .int x5] [] N Q) := by
  intro nn9
  induction nn9 with
  | zero =>
    intro N x5 hG F0 g1 g2 g3 g4 g5 g6 g7 g8 g9 g10 g11 g12 g13 g14 g15 hm
    exfalso; omega
  | succ nn9 ih =>
    intro N x5 hG F0 g1 g2 g3 g4 g5 g6 g7 g8 g9 g10 g11 g12 g13 g14 g15 hm
    have c_1 := CS_u g6 (a := (N.2.1 1 9).toInt) (by omega)
    unfold x_C at c_1
    have z_2 := fun h9 : nn ≤ (N.2.1 1 9).toInt => (x_t0 (t := t) (n := nn) (a := (N.2.1 1 9).toInt) h9).1
    refine to_i (pc := 89) rw_101_89 rfl ?_
    refine to_c (pc := 91) rw_101_91 (x := (500 : Int32)) rfl rfl ?_
    refine b_cge (pc := 94) rw_101_94 (A := x5.toInt) (B := 500) rfl rfl (fun h3 => ?_) (fun h3 => ?_)
    · refine to_an (pc := 126) rw_101_126 rfl ?_
      refine to_c (pc := 127) rw_101_127 (x := (59 : Int32)) rfl rfl ?_
      refine s_v (pc := 129) rw_101_129 (dp0 hd (by decide)) (ls0 := [.ref 1, .int (59 : Int32)]) rfl (Nat.le_of_ble_eq_true rfl) (Nat.le_of_ble_eq_true rfl) rfl (to_rc rfl rfl rfl (g_o hG rfl)) rfl ?_
      have k_4 : (59 : Int32).toInt = 59 := rfl
      refine E_90s hX (dp1 hd (by decide)) hG g6 (by omega) (by omega) (c := (59 : Int32)) (t := t) (nn := nn) (a := (N.2.1 1 9).toInt) (fun r5 M14 hG7 F6 p_8 p_9 p_10 p_11 p_12 p_13 => ?_)
      have F15 := FR.c F0 F6 tg_160
      rcases (show r5.toInt = 0 ∨ r5.toInt = 1 by omega) with h16 | h16
      · skip
        have p_17 := p_12 (by omega)
        have p_18 := p_13 (by omega)
        clear p_11 p_12 p_13
        have z_19 := g15.trans (w1_x (by omega) (by omega) (by omega) (by omega))
        refine s_r1 (pc := 132) rw_101_132 (A := r5.toInt) rfl (by omega) ?_
        have t_20 : (M14.2.1 30 (s.toInt).toNat).toInt = (N.2.1 30 (s.toInt).toNat).toInt := congrArg Int32.toInt (F_n F6 (show ¬ (30 = 1 ∧ 6 ≤ ((s.toInt).toNat) ∧ ((s.toInt).toNat) ≤ 11) by omega) rfl)
        have t_21 : (M14.2.1 31 (s.toInt).toNat).toInt = (N.2.1 31 (s.toInt).toNat).toInt := congrArg Int32.toInt (F_n F6 (show ¬ (31 = 1 ∧ 6 ≤ ((s.toInt).toNat) ∧ ((s.toInt).toNat) ≤ 11) by omega) rfl)
        have t_22 : (M14.2.1 32 (s.toInt).toNat).toInt = (N.2.1 32 (s.toInt).toNat).toInt := congrArg Int32.toInt (F_n F6 (show ¬ (32 = 1 ∧ 6 ≤ ((s.toInt).toNat) ∧ ((s.toInt).toNat) ≤ 11) by omega) rfl)
        exact h r5 M14 hG7 F15 (by omega) (by omega) p_10 (fun z => by exfalso; omega) (fun i hi => ((F_n F6 (show ¬ (30 = 1 ∧ 6 ≤ i ∧ i ≤ 11) by omega) rfl)).trans (g9 i hi)) (fun i hi => ((F_n F6 (show ¬ (31 = 1 ∧ 6 ≤ i ∧ i ≤ 11) by omega) rfl)).trans (g10 i hi)) (fun i hi => ((F_n F6 (show ¬ (32 = 1 ∧ 6 ≤ i ∧ i ≤ 11) by omega) rfl)).trans (g11 i hi)) (fun i hi => ((F_nl F6 (show ¬ (33 = 1 ∧ 6 ≤ i ∧ i ≤ 11) by omega) rfl)).trans (g12 i hi)) (fun z => by exfalso; omega) (fun _ => winl (by omega) (by omega) z_19)
      · skip
        have p_23 := p_11 (by omega)
        clear p_11 p_12 p_13
        have z_24 := g15.trans (w1_s (by omega) (by omega) (by omega))
        refine s_r1 (pc := 132) rw_101_132 (A := r5.toInt) rfl (by omega) ?_
        have t_25 : (M14.2.1 30 (s.toInt).toNat).toInt = (N.2.1 30 (s.toInt).toNat).toInt := congrArg Int32.toInt (F_n F6 (show ¬ (30 = 1 ∧ 6 ≤ ((s.toInt).toNat) ∧ ((s.toInt).toNat) ≤ 11) by omega) rfl)
        have t_26 : (M14.2.1 31 (s.toInt).toNat).toInt = (N.2.1 31 (s.toInt).toNat).toInt := congrArg Int32.toInt (F_n F6 (show ¬ (31 = 1 ∧ 6 ≤ ((s.toInt).toNat) ∧ ((s.toInt).toNat) ≤ 11) by omega) rfl)
        have t_27 : (M14.2.1 32 (s.toInt).toNat).toInt = (N.2.1 32 (s.toInt).toNat).toInt := congrArg Int32.toInt (F_n F6 (show ¬ (32 = 1 ∧ 6 ≤ ((s.toInt).toNat) ∧ ((s.toInt).toNat) ≤ 11) by omega) rfl)
        exact h r5 M14 hG7 F15 (by omega) (by omega) p_10 (fun _ => ⟨(congrArg Int32.toInt ((F_n F6 (show ¬ (30 = 1 ∧ 6 ≤ (s.toInt).toNat ∧ (s.toInt).toNat ≤ 11) by omega) rfl))).trans g13.1, (congrArg Int32.toInt ((F_n F6 (show ¬ (31 = 1 ∧ 6 ≤ (s.toInt).toNat ∧ (s.toInt).toNat ≤ 11) by omega) rfl))).trans g13.2.1, (congrArg Int32.toInt ((F_n F6 (show ¬ (32 = 1 ∧ 6 ≤ (s.toInt).toNat ∧ (s.toInt).toNat ≤ 11) by omega) rfl))).trans g13.2.2, ((F_nl F6 (show ¬ (33 = 1 ∧ 6 ≤ (s.toInt).toNat ∧ (s.toInt).toNat ≤ 11) by omega) rfl)).trans (nd_x g14 (by omega) (by omega))⟩) (fun i hi => ((F_n F6 (show ¬ (30 = 1 ∧ 6 ≤ i ∧ i ≤ 11) by omega) rfl)).trans (g9 i hi)) (fun i hi => ((F_n F6 (show ¬ (31 = 1 ∧ 6 ≤ i ∧ i ≤ 11) by omega) rfl)).trans (g10 i hi)) (fun i hi => ((F_n F6 (show ¬ (32 = 1 ∧ 6 ≤ i ∧ i ≤ 11) by omega) rfl)).trans (g11 i hi)) (fun i hi => ((F_nl F6 (show ¬ (33 = 1 ∧ 6 ≤ i ∧ i ≤ 11) by omega) rfl)).trans (g12 i hi)) (fun _ => z_24.trans (w_v rfl (by omega))) (fun z => by exfalso; omega)
    · refine to_an (pc := 97) rw_101_97 rfl ?_
      refine tt_gI (pc := 98) rw_101_98 (g_o hG rfl) (v := (N.2.1 1 7)) rfl ?_
      refine to_c (pc := 101) rw_101_101 (x := (59 : Int32)) rfl rfl ?_
      refine b_ceq (pc := 103) rw_101_103 (A := (N.2.1 1 7).toInt) (B := 59) rfl rfl (fun h28 => ?_) (fun h28 => ?_)
      · refine to_an (pc := 126) rw_101_126 rfl ?_
        refine to_c (pc := 127) rw_101_127 (x := (59 : Int32)) rfl rfl ?_
        refine s_v (pc := 129) rw_101_129 (dp0 hd (by decide)) (ls0 := [.ref 1, .int (59 : Int32)]) rfl (Nat.le_of_ble_eq_true rfl) (Nat.le_of_ble_eq_true rfl) rfl (to_rc rfl rfl rfl (g_o hG rfl)) rfl ?_
        have k_29 : (59 : Int32).toInt = 59 := rfl
        refine E_90s hX (dp1 hd (by decide)) hG g6 (by omega) (by omega) (c := (59 : Int32)) (t := t) (nn := nn) (a := (N.2.1 1 9).toInt) (fun r30 M39 hG32 F31 p_33 p_34 p_35 p_36 p_37 p_38 => ?_)
        have F40 := FR.c F0 F31 tg_160
        rcases (show r30.toInt = 0 ∨ r30.toInt = 1 by omega) with h41 | h41
        · skip
          have p_42 := p_37 (by omega)
          have p_43 := p_38 (by omega)
          clear p_36 p_37 p_38
          have z_44 := g15.trans (w1_x (by omega) (by omega) (by omega) (by omega))
          refine s_r1 (pc := 132) rw_101_132 (A := r30.toInt) rfl (by omega) ?_
          have t_45 : (M39.2.1 30 (s.toInt).toNat).toInt = (N.2.1 30 (s.toInt).toNat).toInt := congrArg Int32.toInt (F_n F31 (show ¬ (30 = 1 ∧ 6 ≤ ((s.toInt).toNat) ∧ ((s.toInt).toNat) ≤ 11) by omega) rfl)
          have t_46 : (M39.2.1 31 (s.toInt).toNat).toInt = (N.2.1 31 (s.toInt).toNat).toInt := congrArg Int32.toInt (F_n F31 (show ¬ (31 = 1 ∧ 6 ≤ ((s.toInt).toNat) ∧ ((s.toInt).toNat) ≤ 11) by omega) rfl)
          have t_47 : (M39.2.1 32 (s.toInt).toNat).toInt = (N.2.1 32 (s.toInt).toNat).toInt := congrArg Int32.toInt (F_n F31 (show ¬ (32 = 1 ∧ 6 ≤ ((s.toInt).toNat) ∧ ((s.toInt).toNat) ≤ 11) by omega) rfl)
          exact h r30 M39 hG32 F40 (by omega) (by omega) p_35 (fun z => by exfalso; omega) (fun i hi => ((F_n F31 (show ¬ (30 = 1 ∧ 6 ≤ i ∧ i ≤ 11) by omega) rfl)).trans (g9 i hi)) (fun i hi => ((F_n F31 (show ¬ (31 = 1 ∧ 6 ≤ i ∧ i ≤ 11) by omega) rfl)).trans (g10 i hi)) (fun i hi => ((F_n F31 (show ¬ (32 = 1 ∧ 6 ≤ i ∧ i ≤ 11) by omega) rfl)).trans (g11 i hi)) (fun i hi => ((F_nl F31 (show ¬ (33 = 1 ∧ 6 ≤ i ∧ i ≤ 11) by omega) rfl)).trans (g12 i hi)) (fun z => by exfalso; omega) (fun _ => winl (by omega) (by omega) z_44)
        · skip
          have p_48 := p_36 (by omega)
          clear p_36 p_37 p_38
          have z_49 := g15.trans (w1_s (by omega) (by omega) (by omega))
          refine s_r1 (pc := 132) rw_101_132 (A := r30.toInt) rfl (by omega) ?_
          have t_50 : (M39.2.1 30 (s.toInt).toNat).toInt = (N.2.1 30 (s.toInt).toNat).toInt := congrArg Int32.toInt (F_n F31 (show ¬ (30 = 1 ∧ 6 ≤ ((s.toInt).toNat) ∧ ((s.toInt).toNat) ≤ 11) by omega) rfl)
          have t_51 : (M39.2.1 31 (s.toInt).toNat).toInt = (N.2.1 31 (s.toInt).toNat).toInt := congrArg Int32.toInt (F_n F31 (show ¬ (31 = 1 ∧ 6 ≤ ((s.toInt).toNat) ∧ ((s.toInt).toNat) ≤ 11) by omega) rfl)
          have t_52 : (M39.2.1 32 (s.toInt).toNat).toInt = (N.2.1 32 (s.toInt).toNat).toInt := congrArg Int32.toInt (F_n F31 (show ¬ (32 = 1 ∧ 6 ≤ ((s.toInt).toNat) ∧ ((s.toInt).toNat) ≤ 11) by omega) rfl)
          exact h r30 M39 hG32 F40 (by omega) (by omega) p_35 (fun _ => ⟨(congrArg Int32.toInt ((F_n F31 (show ¬ (30 = 1 ∧ 6 ≤ (s.toInt).toNat ∧ (s.toInt).toNat ≤ 11) by omega) rfl))).trans g13.1, (congrArg Int32.toInt ((F_n F31 (show ¬ (31 = 1 ∧ 6 ≤ (s.toInt).toNat ∧ (s.toInt).toNat ≤ 11) by omega) rfl))).trans g13.2.1, (congrArg Int32.toInt ((F_n F31 (show ¬ (32 = 1 ∧ 6 ≤ (s.toInt).toNat ∧ (s.toInt).toNat ≤ 11) by omega) rfl))).trans g13.2.2, ((F_nl F31 (show ¬ (33 = 1 ∧ 6 ≤ (s.toInt).toNat ∧ (s.toInt).toNat ≤ 11) by omega) rfl)).trans (nd_x g14 (by omega) (by omega))⟩) (fun i hi => ((F_n F31 (show ¬ (30 = 1 ∧ 6 ≤ i ∧ i ≤ 11) by omega) rfl)).trans (g9 i hi)) (fun i hi => ((F_n F31 (show ¬ (31 = 1 ∧ 6 ≤ i ∧ i ≤ 11) by omega) rfl)).trans (g10 i hi)) (fun i hi => ((F_n F31 (show ¬ (32 = 1 ∧ 6 ≤ i ∧ i ≤ 11) by omega) rfl)).trans (g11 i hi)) (fun i hi => ((F_nl F31 (show ¬ (33 = 1 ∧ 6 ≤ i ∧ i ≤ 11) by omega) rfl)).trans (g12 i hi)) (fun _ => z_49.trans (w_v rfl (by omega))) (fun z => by exfalso; omega)
      · refine to_an (pc := 106) rw_101_106 rfl ?_
        refine to_an (pc := 107) rw_101_107 rfl ?_
        refine to_an (pc := 108) rw_101_108 rfl ?_
        refine to_an (pc := 109) rw_101_109 rfl ?_
        refine to_i (pc := 110) rw_101_110 rfl ?_
        refine s_v (pc := 112) rw_101_112 (dp0 hd (by decide)) (ls0 := [.ref 28, .ref 1, .ref p, .ref 11, .int s, .null, .null, .null, .null]) rfl (Nat.le_of_ble_eq_true rfl) (Nat.le_of_ble_eq_true rfl) rfl (to_rc rfl rfl rfl (g_o hG rfl)) rfl ?_
        refine E_103 hX (dp1 hd (by decide)) hG hp (by omega) (by omega) g6 (by omega) g7 g8 (p := p) (s := s) (t := t) (nn := nn) (a := (N.2.1 1 9).toInt) (sg := sg) (C9 := C9) (fun r53 M65 hG55 F54 p_56 p_57 p_58 p_59 p_60 p_61 p_62 p_63 p_64 => ?_)
        have F66 := FR.c F0 F54 tg_161
        rcases (show r53.toInt = 0 ∨ r53.toInt = 1 by omega) with h67 | h67
        · skip
          have p_68 := p_64 (by omega)
          clear p_59 p_60 p_62 p_63 p_64
          have z_69 := g15.trans (w1_nx (by omega) (by omega) (by omega) p_68)
          refine b_ine_f (pc := 115) rw_101_115 (A := r53.toInt) rfl (by omega) ?_
          refine to_c (pc := 118) rw_101_118 (x := (0 : Int32)) rfl rfl ?_
          refine s_r1 (pc := 119) rw_101_119 (A := 0) rfl (by decide) ?_
          have k_70 : (0 : Int32).toInt = 0 := rfl
          have t_71 : (M65.2.1 30 (s.toInt).toNat).toInt = (N.2.1 30 (s.toInt).toNat).toInt := congrArg Int32.toInt (F_n F54 (show ¬ (30 = 1 ∧ 6 ≤ ((s.toInt).toNat) ∧ ((s.toInt).toNat) ≤ 11 ∨ 30 = 33) by omega) rfl)
          have t_72 : (M65.2.1 31 (s.toInt).toNat).toInt = (N.2.1 31 (s.toInt).toNat).toInt := congrArg Int32.toInt (F_n F54 (show ¬ (31 = 1 ∧ 6 ≤ ((s.toInt).toNat) ∧ ((s.toInt).toNat) ≤ 11 ∨ 31 = 33) by omega) rfl)
          have t_73 : (M65.2.1 32 (s.toInt).toNat).toInt = (N.2.1 32 (s.toInt).toNat).toInt := congrArg Int32.toInt (F_n F54 (show ¬ (32 = 1 ∧ 6 ≤ ((s.toInt).toNat) ∧ ((s.toInt).toNat) ≤ 11 ∨ 32 = 33) by omega) rfl)
          exact h (0 : Int32) M65 hG55 F66 (by decide) (by decide) p_58 (fun z => by exfalso; omega) (fun i hi => ((F_n F54 (show ¬ (30 = 1 ∧ 6 ≤ i ∧ i ≤ 11 ∨ 30 = 33) by omega) rfl)).trans (g9 i hi)) (fun i hi => ((F_n F54 (show ¬ (31 = 1 ∧ 6 ≤ i ∧ i ≤ 11 ∨ 31 = 33) by omega) rfl)).trans (g10 i hi)) (fun i hi => ((F_n F54 (show ¬ (32 = 1 ∧ 6 ≤ i ∧ i ≤ 11 ∨ 32 = 33) by omega) rfl)).trans (g11 i hi)) (fun i hi => (((rfl).trans ((p_61 i hi).trans (rfl)))).trans (g12 i hi)) (fun z => by exfalso; omega) (fun _ => winl (by omega) (by omega) z_69)
        · skip
          have p_74 := p_59 (by omega)
          have p_75 := p_60 (by omega)
          have p_76 := p_62 (by omega)
          have p_77 := p_63 (by omega)
          clear p_59 p_60 p_62 p_63 p_64
          have z_78 := nd_s g14 (by omega) (by omega) p_76 p_75
          have z_79 := g15.trans (w1_ny (by omega) (by omega) p_77)
          refine b_ine_t (pc := 115) rw_101_115 (A := r53.toInt) rfl (by omega) ?_
          refine s_inc (pc := 120) rw_101_120 (ls2 := fun v => [.ref 28, .ref 1, .ref p, .ref 11, .int s, .int v]) rfl rfl (fun _ => rfl) (A := x5.toInt) (B := 1) rfl rfl (by omega) (fun v80 e81 => ?_)
          refine to_go (pc := 123) rw_101_123 ?_
          have j_82 := (PLs_f (fun a i z => F_n F54 (show ¬ (a = 1 ∧ 6 ≤ i ∧ i ≤ 11 ∨ a = 33) by omega) rfl) g7)
          exact ih M65 v80 hG55 F66 (by omega) (by omega) (by omega) (by omega) (by omega) p_58 j_82 (fun w hw => by rw [show M65.2.2.1 15 w = N.2.2.1 15 w from (F_nl F54 (show ¬ (15 = 1 ∧ 6 ≤ w ∧ w ≤ 11 ∨ 15 = 33) by omega) rfl)]; exact g8 w hw) (fun i hi => ((F_n F54 (show ¬ (30 = 1 ∧ 6 ≤ i ∧ i ≤ 11 ∨ 30 = 33) by omega) rfl)).trans (g9 i hi)) (fun i hi => ((F_n F54 (show ¬ (31 = 1 ∧ 6 ≤ i ∧ i ≤ 11 ∨ 31 = 33) by omega) rfl)).trans (g10 i hi)) (fun i hi => ((F_n F54 (show ¬ (32 = 1 ∧ 6 ≤ i ∧ i ≤ 11 ∨ 32 = 33) by omega) rfl)).trans (g11 i hi)) (fun i hi => (((rfl).trans ((p_61 i hi).trans (rfl)))).trans (g12 i hi)) ⟨(congrArg Int32.toInt ((F_n F54 (show ¬ (30 = 1 ∧ 6 ≤ (s.toInt).toNat ∧ (s.toInt).toNat ≤ 11 ∨ 30 = 33) by omega) rfl))).trans g13.1, (congrArg Int32.toInt ((F_n F54 (show ¬ (31 = 1 ∧ 6 ≤ (s.toInt).toNat ∧ (s.toInt).toNat ≤ 11 ∨ 31 = 33) by omega) rfl))).trans g13.2.1, (congrArg Int32.toInt ((F_n F54 (show ¬ (32 = 1 ∧ 6 ≤ (s.toInt).toNat ∧ (s.toInt).toNat ≤ 11 ∨ 32 = 33) by omega) rfl))).trans g13.2.2⟩ z_78 z_79 (by omega)
set_option maxRecDepth 4000 in
set_option maxHeartbeats 0 in
theorem E_101 {X : mm_X} {d : Nat} {M : mm_M} {Q : Option Value → mm_M → Prop} {p : Nat} {s : Int32} {t : Nat → Int} {nn : Int} {a : Int} {sg : x_S} {C9 : Nat → Int64} {n9 : Int} {op : List Int} {A9 : x_A} (hX : g_X X) (hd : 3 ≤ d) (hG : g_G M) (hp : p = 49 ∨ p = 58) (q1 : 0 ≤ s.toInt) (q2 : s.toInt ≤ 39) (q3 : CS M t nn) (q4 : (M.2.1 1 9).toInt = a) (q5 : PLs M p sg) (q6 : ∀ w : Nat, (w : Int) < sg.2.2.1 → M.2.2.1 15 w = C9 w) (q7 : nn ≤ 500) (h : ∀ (r : Int32) (M1 : mm_M), g_G M1 → FR md_w101 M M1 → (0 ≤ r.toInt) → (r.toInt ≤ 1) → CS M1 t nn → ((r.toInt = 1 → (M1.2.1 30 (s.toInt).toNat).toInt = x_kp t nn a ∧ (M1.2.1 31 (s.toInt).toNat).toInt = x_kp t nn (x_ns t nn (x_ns t nn a)) ∧ (M1.2.1 32 (s.toInt).toNat).toInt = x_kp t nn (x_ns t nn (x_ns t nn (x_ns t nn a))) ∧ M1.2.2.1 33 (s.toInt).toNat = x_ndv t nn sg C9 (x_ns t nn (x_ns t nn (x_ns t nn (x_ns t nn (x_ns t nn a))))) 0)) → (∀ i : Nat, ¬ i = (s.toInt).toNat → M1.2.1 30 i = M.2.1 30 i) → (∀ i : Nat, ¬ i = (s.toInt).toNat → M1.2.1 31 i = M.2.1 31 i) → (∀ i : Nat, ¬ i = (s.toInt).toNat → M1.2.1 32 i = M.2.1 32 i) → (∀ i : Nat, ¬ i = (s.toInt).toNat → M1.2.2.1 33 i = M.2.2.1 33 i) → ((r.toInt = 1 → x_wps t nn sg a (x_ww t nn sg 1 n9 op A9) = x_ww t nn sg 0 n9 op A9 (M1.2.1 1 9).toInt)) → ((r.toInt = 0 → x_wps t nn sg a (x_ww t nn sg 1 n9 op A9) = Sum.inl ((M1.2.1 1 10).toInt, (M1.2.1 1 11).toInt))) → Q (some (.int r)) M1) : mm_T X d 101 0 [.ref 28, .ref 1, .ref p, .ref 11, .int s, .null] [] M Q := by
  have F0 : FR md_w101 M M := FR.rf
  have c_83 := CS_u q3 (a := a) (by omega)
  unfold x_C at c_83
  refine to_an (pc := 0) rw_101_0 rfl ?_
  refine to_an (pc := 1) rw_101_1 rfl ?_
  refine to_an (pc := 2) rw_101_2 rfl ?_
  refine s_gR (pc := 3) rw_101_3 hG rfl (v := 30) rfl ?_
  refine to_i (pc := 6) rw_101_6 rfl ?_
  refine s_v (pc := 8) rw_101_8 (dp0 hd (by decide)) (ls0 := [.ref 28, .ref 1, .ref 30, .int s, .null]) rfl (Nat.le_of_ble_eq_true rfl) (Nat.le_of_ble_eq_true rfl) rfl (to_rc rfl rfl rfl (g_o hG rfl)) rfl ?_
  refine E_102x hX (dp1 hd (by decide)) hG (by omega) (by omega) q3 (by omega) (s := s) (t := t) (nn := nn) (a := a) (fun r84 M94 hG86 F85 p_87 p_88 p_89 p_90 p_91 p_92 p_93 => ?_)
  have F95 := FR.c F0 F85 tg_162
  rcases (show r84.toInt = 0 ∨ r84.toInt = 1 by omega) with h96 | h96
  · skip
    have p_97 := p_92 (by omega)
    clear p_90 p_91 p_92
    have z_98 : x_wps t nn sg a (x_ww t nn sg 1 n9 op A9) = Sum.inl (1, a) := p_wpx (by omega)
    refine b_ieq_t (pc := 11) rw_101_11 (A := r84.toInt) rfl (by omega) ?_
    refine to_c (pc := 23) rw_101_23 (x := (0 : Int32)) rfl rfl ?_
    refine s_r1 (pc := 24) rw_101_24 (A := 0) rfl (by decide) ?_
    have k_99 : (0 : Int32).toInt = 0 := rfl
    have t_100 : (M94.2.1 31 (s.toInt).toNat).toInt = (M.2.1 31 (s.toInt).toNat).toInt := congrArg Int32.toInt (F_n F85 (show ¬ (31 = 1 ∧ 6 ≤ ((s.toInt).toNat) ∧ ((s.toInt).toNat) ≤ 11 ∨ 31 = 30) by omega) rfl)
    have t_101 : (M94.2.1 32 (s.toInt).toNat).toInt = (M.2.1 32 (s.toInt).toNat).toInt := congrArg Int32.toInt (F_n F85 (show ¬ (32 = 1 ∧ 6 ≤ ((s.toInt).toNat) ∧ ((s.toInt).toNat) ≤ 11 ∨ 32 = 30) by omega) rfl)
    exact h (0 : Int32) M94 hG86 F95 (by decide) (by decide) p_89 (fun z => by exfalso; omega) (fun i hi => ((rfl).trans ((p_93 i hi).trans (rfl)))) (fun i hi => (F_n F85 (show ¬ (31 = 1 ∧ 6 ≤ i ∧ i ≤ 11 ∨ 31 = 30) by omega) rfl)) (fun i hi => (F_n F85 (show ¬ (32 = 1 ∧ 6 ≤ i ∧ i ≤ 11 ∨ 32 = 30) by omega) rfl)) (fun i hi => (F_nl F85 (show ¬ (33 = 1 ∧ 6 ≤ i ∧ i ≤ 11 ∨ 33 = 30) by omega) rfl)) (fun z => by exfalso; omega) (fun _ => winl (by omega) (by omega) z_98)
  · skip
    have p_102 := p_90 (by omega)
    have p_103 := p_91 (by omega)
    clear p_90 p_91 p_92
    have z_104 : (M94.2.1 30 (s.toInt).toNat).toInt = x_kp t nn a := by omega
    have z_105 : x_wps t nn sg a (x_ww t nn sg 1 n9 op A9) = x_wy2 t nn 8 (x_ns t nn a) (fun c => x_wp t nn c (fun d => x_wp t nn d (fun e => x_wy2 t nn 9 e (fun g => x_wnd t nn sg g (x_ww t nn sg 1 n9 op A9))))) := p_wp (by omega)
    have z_106 := x_ns_b (t := t) (n := nn) (a := a) (by omega) (by omega)
    refine b_ieq_f (pc := 11) rw_101_11 (A := r84.toInt) rfl (by omega) ?_
    refine to_an (pc := 14) rw_101_14 rfl ?_
    refine to_c (pc := 15) rw_101_15 (x := (686817280 : Int32)) rfl rfl ?_
    refine s_v (pc := 17) rw_101_17 (dp0 hd (by decide)) (ls0 := [.ref 1, .int (686817280 : Int32)]) rfl (Nat.le_of_ble_eq_true rfl) (Nat.le_of_ble_eq_true rfl) rfl (to_rc rfl rfl rfl (g_o hG86 rfl)) rfl ?_
    have k_107 : (686817280 : Int32).toInt = 686817280 := rfl
    refine E_89 hX (dp1 hd (by decide)) hG86 p_89 (by omega) (by omega) (c := (686817280 : Int32)) (t := t) (nn := nn) (a := (x_ns t nn a)) (fun r108 M117 hG110 F109 p_111 p_112 p_113 p_114 p_115 p_116 => ?_)
    have F118 := FR.c F95 F109 tg_160
    rcases (show r108.toInt = 0 ∨ r108.toInt = 1 by omega) with h119 | h119
    · skip
      have p_120 := p_115 (by omega)
      have p_121 := p_116 (by omega)
      clear p_114 p_115 p_116
      have z_122 : x_wps t nn sg a (x_ww t nn sg 1 n9 op A9) = Sum.inl (1, (x_ns t nn a)) := z_105.trans (p_wyx (fun z => by have := (x_kx_w2 (x_val t nn (x_ns t nn a))).2.1.mp z.2; omega))
      refine b_ine_f (pc := 20) rw_101_20 (A := r108.toInt) rfl (by omega) ?_
      refine to_c (pc := 23) rw_101_23 (x := (0 : Int32)) rfl rfl ?_
      refine s_r1 (pc := 24) rw_101_24 (A := 0) rfl (by decide) ?_
      have k_123 : (0 : Int32).toInt = 0 := rfl
      have t_124 : (M117.2.1 30 (s.toInt).toNat).toInt = (M94.2.1 30 (s.toInt).toNat).toInt := congrArg Int32.toInt (F_n F109 (show ¬ (30 = 1 ∧ 6 ≤ ((s.toInt).toNat) ∧ ((s.toInt).toNat) ≤ 11) by omega) rfl)
      have t_125 : (M117.2.1 31 (s.toInt).toNat).toInt = (M.2.1 31 (s.toInt).toNat).toInt := congrArg Int32.toInt (F_n F109 (show ¬ (31 = 1 ∧ 6 ≤ ((s.toInt).toNat) ∧ ((s.toInt).toNat) ≤ 11) by omega) (F_n F85 (show ¬ (31 = 1 ∧ 6 ≤ ((s.toInt).toNat) ∧ ((s.toInt).toNat) ≤ 11 ∨ 31 = 30) by omega) rfl))
      have t_126 : (M117.2.1 32 (s.toInt).toNat).toInt = (M.2.1 32 (s.toInt).toNat).toInt := congrArg Int32.toInt (F_n F109 (show ¬ (32 = 1 ∧ 6 ≤ ((s.toInt).toNat) ∧ ((s.toInt).toNat) ≤ 11) by omega) (F_n F85 (show ¬ (32 = 1 ∧ 6 ≤ ((s.toInt).toNat) ∧ ((s.toInt).toNat) ≤ 11 ∨ 32 = 30) by omega) rfl))
      exact h (0 : Int32) M117 hG110 F118 (by decide) (by decide) p_113 (fun z => by exfalso; omega) (fun i hi => (((F_n F109 (show ¬ (30 = 1 ∧ 6 ≤ i ∧ i ≤ 11) by omega) rfl)).trans ((p_93 i hi).trans (rfl)))) (fun i hi => (F_n F109 (show ¬ (31 = 1 ∧ 6 ≤ i ∧ i ≤ 11) by omega) (F_n F85 (show ¬ (31 = 1 ∧ 6 ≤ i ∧ i ≤ 11 ∨ 31 = 30) by omega) rfl))) (fun i hi => (F_n F109 (show ¬ (32 = 1 ∧ 6 ≤ i ∧ i ≤ 11) by omega) (F_n F85 (show ¬ (32 = 1 ∧ 6 ≤ i ∧ i ≤ 11 ∨ 32 = 30) by omega) rfl))) (fun i hi => (F_nl F109 (show ¬ (33 = 1 ∧ 6 ≤ i ∧ i ≤ 11) by omega) (F_nl F85 (show ¬ (33 = 1 ∧ 6 ≤ i ∧ i ≤ 11 ∨ 33 = 30) by omega) rfl))) (fun z => by exfalso; omega) (fun _ => winl (by omega) (by omega) z_122)
    · skip
      have p_127 := p_114 (by omega)
      clear p_114 p_115 p_116
      have z_128 : x_wps t nn sg a (x_ww t nn sg 1 n9 op A9) = x_wp t nn (x_ns t nn (x_ns t nn a)) (fun d => x_wp t nn d (fun e => x_wy2 t nn 9 e (fun g => x_wnd t nn sg g (x_ww t nn sg 1 n9 op A9)))) := z_105.trans (p_wy ⟨by omega, (x_kx_w2 (x_val t nn (x_ns t nn a))).2.1.mpr (by omega)⟩)
      have z_129 := x_ns_b (t := t) (n := nn) (a := (x_ns t nn a)) (by omega) (by omega)
      refine b_ine_t (pc := 20) rw_101_20 (A := r108.toInt) rfl (by omega) ?_
      refine to_an (pc := 25) rw_101_25 rfl ?_
      refine to_an (pc := 26) rw_101_26 rfl ?_
      refine to_an (pc := 27) rw_101_27 rfl ?_
      refine s_gR (pc := 28) rw_101_28 hG110 rfl (v := 31) rfl ?_
      refine to_i (pc := 31) rw_101_31 rfl ?_
      refine s_v (pc := 33) rw_101_33 (dp0 hd (by decide)) (ls0 := [.ref 28, .ref 1, .ref 31, .int s, .null]) rfl (Nat.le_of_ble_eq_true rfl) (Nat.le_of_ble_eq_true rfl) rfl (to_rc rfl rfl rfl (g_o hG110 rfl)) rfl ?_
      refine E_102y hX (dp1 hd (by decide)) hG110 (by omega) (by omega) p_113 (by omega) (s := s) (t := t) (nn := nn) (a := (x_ns t nn (x_ns t nn a))) (fun r130 M140 hG132 F131 p_133 p_134 p_135 p_136 p_137 p_138 p_139 => ?_)
      have F141 := FR.c F118 F131 tg_163
      rcases (show r130.toInt = 0 ∨ r130.toInt = 1 by omega) with h142 | h142
      · skip
        have p_143 := p_138 (by omega)
        clear p_136 p_137 p_138
        have z_144 : x_wps t nn sg a (x_ww t nn sg 1 n9 op A9) = Sum.inl (1, (x_ns t nn (x_ns t nn a))) := z_128.trans (p_wpx (by omega))
        refine b_ieq_t (pc := 36) rw_101_36 (A := r130.toInt) rfl (by omega) ?_
        refine to_c (pc := 62) rw_101_62 (x := (0 : Int32)) rfl rfl ?_
        refine s_r1 (pc := 63) rw_101_63 (A := 0) rfl (by decide) ?_
        have k_145 : (0 : Int32).toInt = 0 := rfl
        have t_146 : (M140.2.1 30 (s.toInt).toNat).toInt = (M94.2.1 30 (s.toInt).toNat).toInt := congrArg Int32.toInt (F_n F131 (show ¬ (30 = 1 ∧ 6 ≤ ((s.toInt).toNat) ∧ ((s.toInt).toNat) ≤ 11 ∨ 30 = 31) by omega) (F_n F109 (show ¬ (30 = 1 ∧ 6 ≤ ((s.toInt).toNat) ∧ ((s.toInt).toNat) ≤ 11) by omega) rfl))
        have t_147 : (M140.2.1 32 (s.toInt).toNat).toInt = (M.2.1 32 (s.toInt).toNat).toInt := congrArg Int32.toInt (F_n F131 (show ¬ (32 = 1 ∧ 6 ≤ ((s.toInt).toNat) ∧ ((s.toInt).toNat) ≤ 11 ∨ 32 = 31) by omega) (F_n F109 (show ¬ (32 = 1 ∧ 6 ≤ ((s.toInt).toNat) ∧ ((s.toInt).toNat) ≤ 11) by omega) (F_n F85 (show ¬ (32 = 1 ∧ 6 ≤ ((s.toInt).toNat) ∧ ((s.toInt).toNat) ≤ 11 ∨ 32 = 30) by omega) rfl)))
        exact h (0 : Int32) M140 hG132 F141 (by decide) (by decide) p_135 (fun z => by exfalso; omega) (fun i hi => (((F_n F131 (show ¬ (30 = 1 ∧ 6 ≤ i ∧ i ≤ 11 ∨ 30 = 31) by omega) (F_n F109 (show ¬ (30 = 1 ∧ 6 ≤ i ∧ i ≤ 11) by omega) rfl))).trans ((p_93 i hi).trans (rfl)))) (fun i hi => ((rfl).trans ((p_139 i hi).trans ((F_n F109 (show ¬ (31 = 1 ∧ 6 ≤ i ∧ i ≤ 11) by omega) (F_n F85 (show ¬ (31 = 1 ∧ 6 ≤ i ∧ i ≤ 11 ∨ 31 = 30) by omega) rfl)))))) (fun i hi => (F_n F131 (show ¬ (32 = 1 ∧ 6 ≤ i ∧ i ≤ 11 ∨ 32 = 31) by omega) (F_n F109 (show ¬ (32 = 1 ∧ 6 ≤ i ∧ i ≤ 11) by omega) (F_n F85 (show ¬ (32 = 1 ∧ 6 ≤ i ∧ i ≤ 11 ∨ 32 = 30) by omega) rfl)))) (fun i hi => (F_nl F131 (show ¬ (33 = 1 ∧ 6 ≤ i ∧ i ≤ 11 ∨ 33 = 31) by omega) (F_nl F109 (show ¬ (33 = 1 ∧ 6 ≤ i ∧ i ≤ 11) by omega) (F_nl F85 (show ¬ (33 = 1 ∧ 6 ≤ i ∧ i ≤ 11 ∨ 33 = 30) by omega) rfl)))) (fun z => by exfalso; omega) (fun _ => winl (by omega) (by omega) z_144)
      · skip
        have p_148 := p_136 (by omega)
        have p_149 := p_137 (by omega)
        clear p_136 p_137 p_138
        have z_150 : (M140.2.1 31 (s.toInt).toNat).toInt = x_kp t nn (x_ns t nn (x_ns t nn a)) := by omega
        have z_151 : x_wps t nn sg a (x_ww t nn sg 1 n9 op A9) = x_wp t nn (x_ns t nn (x_ns t nn (x_ns t nn a))) (fun e => x_wy2 t nn 9 e (fun g => x_wnd t nn sg g (x_ww t nn sg 1 n9 op A9))) := z_128.trans (p_wp (by omega))
        have z_152 := x_ns_b (t := t) (n := nn) (a := (x_ns t nn (x_ns t nn a))) (by omega) (by omega)
        refine b_ieq_f (pc := 36) rw_101_36 (A := r130.toInt) rfl (by omega) ?_
        refine to_an (pc := 39) rw_101_39 rfl ?_
        refine to_an (pc := 40) rw_101_40 rfl ?_
        refine to_an (pc := 41) rw_101_41 rfl ?_
        refine s_gR (pc := 42) rw_101_42 hG132 rfl (v := 32) rfl ?_
        refine to_i (pc := 45) rw_101_45 rfl ?_
        refine s_v (pc := 47) rw_101_47 (dp0 hd (by decide)) (ls0 := [.ref 28, .ref 1, .ref 32, .int s, .null]) rfl (Nat.le_of_ble_eq_true rfl) (Nat.le_of_ble_eq_true rfl) rfl (to_rc rfl rfl rfl (g_o hG132 rfl)) rfl ?_
        refine E_102z hX (dp1 hd (by decide)) hG132 (by omega) (by omega) p_135 (by omega) (s := s) (t := t) (nn := nn) (a := (x_ns t nn (x_ns t nn (x_ns t nn a)))) (fun r153 M163 hG155 F154 p_156 p_157 p_158 p_159 p_160 p_161 p_162 => ?_)
        have F164 := FR.c F141 F154 tg_164
        rcases (show r153.toInt = 0 ∨ r153.toInt = 1 by omega) with h165 | h165
        · skip
          have p_166 := p_161 (by omega)
          clear p_159 p_160 p_161
          have z_167 : x_wps t nn sg a (x_ww t nn sg 1 n9 op A9) = Sum.inl (1, (x_ns t nn (x_ns t nn (x_ns t nn a)))) := z_151.trans (p_wpx (by omega))
          refine b_ieq_t (pc := 50) rw_101_50 (A := r153.toInt) rfl (by omega) ?_
          refine to_c (pc := 62) rw_101_62 (x := (0 : Int32)) rfl rfl ?_
          refine s_r1 (pc := 63) rw_101_63 (A := 0) rfl (by decide) ?_
          have k_168 : (0 : Int32).toInt = 0 := rfl
          have t_169 : (M163.2.1 30 (s.toInt).toNat).toInt = (M94.2.1 30 (s.toInt).toNat).toInt := congrArg Int32.toInt (F_n F154 (show ¬ (30 = 1 ∧ 6 ≤ ((s.toInt).toNat) ∧ ((s.toInt).toNat) ≤ 11 ∨ 30 = 32) by omega) (F_n F131 (show ¬ (30 = 1 ∧ 6 ≤ ((s.toInt).toNat) ∧ ((s.toInt).toNat) ≤ 11 ∨ 30 = 31) by omega) (F_n F109 (show ¬ (30 = 1 ∧ 6 ≤ ((s.toInt).toNat) ∧ ((s.toInt).toNat) ≤ 11) by omega) rfl)))
          have t_170 : (M163.2.1 31 (s.toInt).toNat).toInt = (M140.2.1 31 (s.toInt).toNat).toInt := congrArg Int32.toInt (F_n F154 (show ¬ (31 = 1 ∧ 6 ≤ ((s.toInt).toNat) ∧ ((s.toInt).toNat) ≤ 11 ∨ 31 = 32) by omega) rfl)
          exact h (0 : Int32) M163 hG155 F164 (by decide) (by decide) p_158 (fun z => by exfalso; omega) (fun i hi => (((F_n F154 (show ¬ (30 = 1 ∧ 6 ≤ i ∧ i ≤ 11 ∨ 30 = 32) by omega) (F_n F131 (show ¬ (30 = 1 ∧ 6 ≤ i ∧ i ≤ 11 ∨ 30 = 31) by omega) (F_n F109 (show ¬ (30 = 1 ∧ 6 ≤ i ∧ i ≤ 11) by omega) rfl)))).trans ((p_93 i hi).trans (rfl)))) (fun i hi => (((F_n F154 (show ¬ (31 = 1 ∧ 6 ≤ i ∧ i ≤ 11 ∨ 31 = 32) by omega) rfl)).trans ((p_139 i hi).trans ((F_n F109 (show ¬ (31 = 1 ∧ 6 ≤ i ∧ i ≤ 11) by omega) (F_n F85 (show ¬ (31 = 1 ∧ 6 ≤ i ∧ i ≤ 11 ∨ 31 = 30) by omega) rfl)))))) (fun i hi => ((rfl).trans ((p_162 i hi).trans ((F_n F131 (show ¬ (32 = 1 ∧ 6 ≤ i ∧ i ≤ 11 ∨ 32 = 31) by omega) (F_n F109 (show ¬ (32 = 1 ∧ 6 ≤ i ∧ i ≤ 11) by omega) (F_n F85 (show ¬ (32 = 1 ∧ 6 ≤ i ∧ i ≤ 11 ∨ 32 = 30) by omega) rfl))))))) (fun i hi => (F_nl F154 (show ¬ (33 = 1 ∧ 6 ≤ i ∧ i ≤ 11 ∨ 33 = 32) by omega) (F_nl F131 (show ¬ (33 = 1 ∧ 6 ≤ i ∧ i ≤ 11 ∨ 33 = 31) by omega) (F_nl F109 (show ¬ (33 = 1 ∧ 6 ≤ i ∧ i ≤ 11) by omega) (F_nl F85 (show ¬ (33 = 1 ∧ 6 ≤ i ∧ i ≤ 11 ∨ 33 = 30) by omega) rfl))))) (fun z => by exfalso; omega) (fun _ => winl (by omega) (by omega) z_167)
        · skip
          have p_171 := p_159 (by omega)
          have p_172 := p_160 (by omega)
          clear p_159 p_160 p_161
          have z_173 : (M163.2.1 32 (s.toInt).toNat).toInt = x_kp t nn (x_ns t nn (x_ns t nn (x_ns t nn a))) := by omega
          have z_174 : x_wps t nn sg a (x_ww t nn sg 1 n9 op A9) = x_wy2 t nn 9 (x_ns t nn (x_ns t nn (x_ns t nn (x_ns t nn a)))) (fun g => x_wnd t nn sg g (x_ww t nn sg 1 n9 op A9)) := z_151.trans (p_wp (by omega))
          have z_175 := x_ns_b (t := t) (n := nn) (a := (x_ns t nn (x_ns t nn (x_ns t nn a)))) (by omega) (by omega)
          refine b_ieq_f (pc := 50) rw_101_50 (A := r153.toInt) rfl (by omega) ?_
          refine to_an (pc := 53) rw_101_53 rfl ?_
          refine to_c (pc := 54) rw_101_54 (x := (93323264 : Int32)) rfl rfl ?_
          refine s_v (pc := 56) rw_101_56 (dp0 hd (by decide)) (ls0 := [.ref 1, .int (93323264 : Int32)]) rfl (Nat.le_of_ble_eq_true rfl) (Nat.le_of_ble_eq_true rfl) rfl (to_rc rfl rfl rfl (g_o hG155 rfl)) rfl ?_
          have k_176 : (93323264 : Int32).toInt = 93323264 := rfl
          refine E_89 hX (dp1 hd (by decide)) hG155 p_158 (by omega) (by omega) (c := (93323264 : Int32)) (t := t) (nn := nn) (a := (x_ns t nn (x_ns t nn (x_ns t nn (x_ns t nn a))))) (fun r177 M186 hG179 F178 p_180 p_181 p_182 p_183 p_184 p_185 => ?_)
          have F187 := FR.c F164 F178 tg_160
          rcases (show r177.toInt = 0 ∨ r177.toInt = 1 by omega) with h188 | h188
          · skip
            have p_189 := p_184 (by omega)
            have p_190 := p_185 (by omega)
            clear p_183 p_184 p_185
            have z_191 : x_wps t nn sg a (x_ww t nn sg 1 n9 op A9) = Sum.inl (1, (x_ns t nn (x_ns t nn (x_ns t nn (x_ns t nn a))))) := z_174.trans (p_wyx (fun z => by have := (x_kx_w2 (x_val t nn (x_ns t nn (x_ns t nn (x_ns t nn (x_ns t nn a)))))).2.2.1.mp z.2; omega))
            refine b_ine_f (pc := 59) rw_101_59 (A := r177.toInt) rfl (by omega) ?_
            refine to_c (pc := 62) rw_101_62 (x := (0 : Int32)) rfl rfl ?_
            refine s_r1 (pc := 63) rw_101_63 (A := 0) rfl (by decide) ?_
            have k_192 : (0 : Int32).toInt = 0 := rfl
            have t_193 : (M186.2.1 30 (s.toInt).toNat).toInt = (M94.2.1 30 (s.toInt).toNat).toInt := congrArg Int32.toInt (F_n F178 (show ¬ (30 = 1 ∧ 6 ≤ ((s.toInt).toNat) ∧ ((s.toInt).toNat) ≤ 11) by omega) (F_n F154 (show ¬ (30 = 1 ∧ 6 ≤ ((s.toInt).toNat) ∧ ((s.toInt).toNat) ≤ 11 ∨ 30 = 32) by omega) (F_n F131 (show ¬ (30 = 1 ∧ 6 ≤ ((s.toInt).toNat) ∧ ((s.toInt).toNat) ≤ 11 ∨ 30 = 31) by omega) (F_n F109 (show ¬ (30 = 1 ∧ 6 ≤ ((s.toInt).toNat) ∧ ((s.toInt).toNat) ≤ 11) by omega) rfl))))
            have t_194 : (M186.2.1 31 (s.toInt).toNat).toInt = (M140.2.1 31 (s.toInt).toNat).toInt := congrArg Int32.toInt (F_n F178 (show ¬ (31 = 1 ∧ 6 ≤ ((s.toInt).toNat) ∧ ((s.toInt).toNat) ≤ 11) by omega) (F_n F154 (show ¬ (31 = 1 ∧ 6 ≤ ((s.toInt).toNat) ∧ ((s.toInt).toNat) ≤ 11 ∨ 31 = 32) by omega) rfl))
            have t_195 : (M186.2.1 32 (s.toInt).toNat).toInt = (M163.2.1 32 (s.toInt).toNat).toInt := congrArg Int32.toInt (F_n F178 (show ¬ (32 = 1 ∧ 6 ≤ ((s.toInt).toNat) ∧ ((s.toInt).toNat) ≤ 11) by omega) rfl)
            exact h (0 : Int32) M186 hG179 F187 (by decide) (by decide) p_182 (fun z => by exfalso; omega) (fun i hi => (((F_n F178 (show ¬ (30 = 1 ∧ 6 ≤ i ∧ i ≤ 11) by omega) (F_n F154 (show ¬ (30 = 1 ∧ 6 ≤ i ∧ i ≤ 11 ∨ 30 = 32) by omega) (F_n F131 (show ¬ (30 = 1 ∧ 6 ≤ i ∧ i ≤ 11 ∨ 30 = 31) by omega) (F_n F109 (show ¬ (30 = 1 ∧ 6 ≤ i ∧ i ≤ 11) by omega) rfl))))).trans ((p_93 i hi).trans (rfl)))) (fun i hi => (((F_n F178 (show ¬ (31 = 1 ∧ 6 ≤ i ∧ i ≤ 11) by omega) (F_n F154 (show ¬ (31 = 1 ∧ 6 ≤ i ∧ i ≤ 11 ∨ 31 = 32) by omega) rfl))).trans ((p_139 i hi).trans ((F_n F109 (show ¬ (31 = 1 ∧ 6 ≤ i ∧ i ≤ 11) by omega) (F_n F85 (show ¬ (31 = 1 ∧ 6 ≤ i ∧ i ≤ 11 ∨ 31 = 30) by omega) rfl)))))) (fun i hi => (((F_n F178 (show ¬ (32 = 1 ∧ 6 ≤ i ∧ i ≤ 11) by omega) rfl)).trans ((p_162 i hi).trans ((F_n F131 (show ¬ (32 = 1 ∧ 6 ≤ i ∧ i ≤ 11 ∨ 32 = 31) by omega) (F_n F109 (show ¬ (32 = 1 ∧ 6 ≤ i ∧ i ≤ 11) by omega) (F_n F85 (show ¬ (32 = 1 ∧ 6 ≤ i ∧ i ≤ 11 ∨ 32 = 30) by omega) rfl))))))) (fun i hi => (F_nl F178 (show ¬ (33 = 1 ∧ 6 ≤ i ∧ i ≤ 11) by omega) (F_nl F154 (show ¬ (33 = 1 ∧ 6 ≤ i ∧ i ≤ 11 ∨ 33 = 32) by omega) (F_nl F131 (show ¬ (33 = 1 ∧ 6 ≤ i ∧ i ≤ 11 ∨ 33 = 31) by omega) (F_nl F109 (show ¬ (33 = 1 ∧ 6 ≤ i ∧ i ≤ 11) by omega) (F_nl F85 (show ¬ (33 = 1 ∧ 6 ≤ i ∧ i ≤ 11 ∨ 33 = 30) by omega) rfl)))))) (fun z => by exfalso; omega) (fun _ => winl (by omega) (by omega) z_191)
          · skip
            have p_196 := p_183 (by omega)
            clear p_183 p_184 p_185
            have z_197 : x_wps t nn sg a (x_ww t nn sg 1 n9 op A9) = x_wnd t nn sg (x_ns t nn (x_ns t nn (x_ns t nn (x_ns t nn (x_ns t nn a))))) (x_ww t nn sg 1 n9 op A9) := z_174.trans (p_wy ⟨by omega, (x_kx_w2 (x_val t nn (x_ns t nn (x_ns t nn (x_ns t nn (x_ns t nn a)))))).2.2.1.mpr (by omega)⟩)
            have z_198 := x_ns_b (t := t) (n := nn) (a := (x_ns t nn (x_ns t nn (x_ns t nn (x_ns t nn a))))) (by omega) (by omega)
            refine b_ine_t (pc := 59) rw_101_59 (A := r177.toInt) rfl (by omega) ?_
            refine to_an (pc := 64) rw_101_64 rfl ?_
            refine s_gR (pc := 65) rw_101_65 hG179 rfl (v := 33) rfl ?_
            refine to_i (pc := 68) rw_101_68 rfl ?_
            refine to_cl (pc := 70) rw_101_70 rfl (x := (0 : Int64)) rfl ?_
            refine s_las (pc := 71) rw_101_71 hG179 rfl (n := 40) rfl (A := s.toInt) rfl (by omega) (by omega) (fun M200 W199 => ?_)
            have hG201 := g_wl hG179 W199
            have F202 := FR.wl F187 W199 (show 33 = 1 ∧ 6 ≤ (s.toInt).toNat ∧ (s.toInt).toNat ≤ 11 ∨ 30 ≤ 33 ∧ 33 ≤ 33 by omega)
            refine to_an (pc := 72) rw_101_72 rfl ?_
            refine to_an (pc := 73) rw_101_73 rfl ?_
            refine to_an (pc := 74) rw_101_74 rfl ?_
            refine to_an (pc := 75) rw_101_75 rfl ?_
            refine to_i (pc := 76) rw_101_76 rfl ?_
            refine s_v (pc := 78) rw_101_78 (dp0 hd (by decide)) (ls0 := [.ref 28, .ref 1, .ref p, .ref 11, .int s, .null, .null, .null, .null]) rfl (Nat.le_of_ble_eq_true rfl) (Nat.le_of_ble_eq_true rfl) rfl (to_rc rfl rfl rfl (g_o hG201 rfl)) rfl ?_
            have j_203 := (CS_f (fun a i z => W_l W199 rfl) p_182)
            have c_204 : M200.2.1 1 9 = (M186.2.1 1 9) := (W_l W199 rfl)
            have t_205 : (M200.2.1 1 9).toInt = (M186.2.1 1 9).toInt := congrArg Int32.toInt c_204
            have j_206 := (PLs_f (fun a i z => W_l W199 rfl) (PLs_f (fun a i z => F_n F178 (show ¬ (a = 1 ∧ 6 ≤ i ∧ i ≤ 11) by omega) rfl) (PLs_f (fun a i z => F_n F154 (show ¬ (a = 1 ∧ 6 ≤ i ∧ i ≤ 11 ∨ a = 32) by omega) rfl) (PLs_f (fun a i z => F_n F131 (show ¬ (a = 1 ∧ 6 ≤ i ∧ i ≤ 11 ∨ a = 31) by omega) rfl) (PLs_f (fun a i z => F_n F109 (show ¬ (a = 1 ∧ 6 ≤ i ∧ i ≤ 11) by omega) rfl) (PLs_f (fun a i z => F_n F85 (show ¬ (a = 1 ∧ 6 ≤ i ∧ i ≤ 11 ∨ a = 30) by omega) rfl) q5))))))
            refine E_103 hX (dp1 hd (by decide)) hG201 hp (by omega) (by omega) j_203 (by omega) j_206 (fun w hw => by rw [show M200.2.2.1 15 w = M.2.2.1 15 w from (L_n W199 (by omega) (F_nl F178 (show ¬ (15 = 1 ∧ 6 ≤ w ∧ w ≤ 11) by omega) (F_nl F154 (show ¬ (15 = 1 ∧ 6 ≤ w ∧ w ≤ 11 ∨ 15 = 32) by omega) (F_nl F131 (show ¬ (15 = 1 ∧ 6 ≤ w ∧ w ≤ 11 ∨ 15 = 31) by omega) (F_nl F109 (show ¬ (15 = 1 ∧ 6 ≤ w ∧ w ≤ 11) by omega) (F_nl F85 (show ¬ (15 = 1 ∧ 6 ≤ w ∧ w ≤ 11 ∨ 15 = 30) by omega) rfl))))))]; exact q6 w hw) (p := p) (s := s) (t := t) (nn := nn) (a := (x_ns t nn (x_ns t nn (x_ns t nn (x_ns t nn (x_ns t nn a)))))) (sg := sg) (C9 := C9) (fun r207 M219 hG209 F208 p_210 p_211 p_212 p_213 p_214 p_215 p_216 p_217 p_218 => ?_)
            have F220 := FR.c F202 F208 tg_161
            rcases (show r207.toInt = 0 ∨ r207.toInt = 1 by omega) with h221 | h221
            · skip
              have p_222 := p_218 (by omega)
              clear p_213 p_214 p_216 p_217 p_218
              have z_223 := z_197.trans (p_222 (x_ww t nn sg 1 n9 op A9))
              refine b_ine_f (pc := 81) rw_101_81 (A := r207.toInt) rfl (by omega) ?_
              refine to_c (pc := 84) rw_101_84 (x := (0 : Int32)) rfl rfl ?_
              refine s_r1 (pc := 85) rw_101_85 (A := 0) rfl (by decide) ?_
              have k_224 : (0 : Int32).toInt = 0 := rfl
              have t_225 : (M219.2.1 30 (s.toInt).toNat).toInt = (M94.2.1 30 (s.toInt).toNat).toInt := congrArg Int32.toInt (F_n F208 (show ¬ (30 = 1 ∧ 6 ≤ ((s.toInt).toNat) ∧ ((s.toInt).toNat) ≤ 11 ∨ 30 = 33) by omega) (W_l W199 (F_n F178 (show ¬ (30 = 1 ∧ 6 ≤ ((s.toInt).toNat) ∧ ((s.toInt).toNat) ≤ 11) by omega) (F_n F154 (show ¬ (30 = 1 ∧ 6 ≤ ((s.toInt).toNat) ∧ ((s.toInt).toNat) ≤ 11 ∨ 30 = 32) by omega) (F_n F131 (show ¬ (30 = 1 ∧ 6 ≤ ((s.toInt).toNat) ∧ ((s.toInt).toNat) ≤ 11 ∨ 30 = 31) by omega) (F_n F109 (show ¬ (30 = 1 ∧ 6 ≤ ((s.toInt).toNat) ∧ ((s.toInt).toNat) ≤ 11) by omega) rfl))))))
              have t_226 : (M219.2.1 31 (s.toInt).toNat).toInt = (M140.2.1 31 (s.toInt).toNat).toInt := congrArg Int32.toInt (F_n F208 (show ¬ (31 = 1 ∧ 6 ≤ ((s.toInt).toNat) ∧ ((s.toInt).toNat) ≤ 11 ∨ 31 = 33) by omega) (W_l W199 (F_n F178 (show ¬ (31 = 1 ∧ 6 ≤ ((s.toInt).toNat) ∧ ((s.toInt).toNat) ≤ 11) by omega) (F_n F154 (show ¬ (31 = 1 ∧ 6 ≤ ((s.toInt).toNat) ∧ ((s.toInt).toNat) ≤ 11 ∨ 31 = 32) by omega) rfl))))
              have t_227 : (M219.2.1 32 (s.toInt).toNat).toInt = (M163.2.1 32 (s.toInt).toNat).toInt := congrArg Int32.toInt (F_n F208 (show ¬ (32 = 1 ∧ 6 ≤ ((s.toInt).toNat) ∧ ((s.toInt).toNat) ≤ 11 ∨ 32 = 33) by omega) (W_l W199 (F_n F178 (show ¬ (32 = 1 ∧ 6 ≤ ((s.toInt).toNat) ∧ ((s.toInt).toNat) ≤ 11) by omega) rfl)))
              exact h (0 : Int32) M219 hG209 F220 (by decide) (by decide) p_212 (fun z => by exfalso; omega) (fun i hi => (((F_n F208 (show ¬ (30 = 1 ∧ 6 ≤ i ∧ i ≤ 11 ∨ 30 = 33) by omega) (W_l W199 (F_n F178 (show ¬ (30 = 1 ∧ 6 ≤ i ∧ i ≤ 11) by omega) (F_n F154 (show ¬ (30 = 1 ∧ 6 ≤ i ∧ i ≤ 11 ∨ 30 = 32) by omega) (F_n F131 (show ¬ (30 = 1 ∧ 6 ≤ i ∧ i ≤ 11 ∨ 30 = 31) by omega) (F_n F109 (show ¬ (30 = 1 ∧ 6 ≤ i ∧ i ≤ 11) by omega) rfl))))))).trans ((p_93 i hi).trans (rfl)))) (fun i hi => (((F_n F208 (show ¬ (31 = 1 ∧ 6 ≤ i ∧ i ≤ 11 ∨ 31 = 33) by omega) (W_l W199 (F_n F178 (show ¬ (31 = 1 ∧ 6 ≤ i ∧ i ≤ 11) by omega) (F_n F154 (show ¬ (31 = 1 ∧ 6 ≤ i ∧ i ≤ 11 ∨ 31 = 32) by omega) rfl))))).trans ((p_139 i hi).trans ((F_n F109 (show ¬ (31 = 1 ∧ 6 ≤ i ∧ i ≤ 11) by omega) (F_n F85 (show ¬ (31 = 1 ∧ 6 ≤ i ∧ i ≤ 11 ∨ 31 = 30) by omega) rfl)))))) (fun i hi => (((F_n F208 (show ¬ (32 = 1 ∧ 6 ≤ i ∧ i ≤ 11 ∨ 32 = 33) by omega) (W_l W199 (F_n F178 (show ¬ (32 = 1 ∧ 6 ≤ i ∧ i ≤ 11) by omega) rfl)))).trans ((p_162 i hi).trans ((F_n F131 (show ¬ (32 = 1 ∧ 6 ≤ i ∧ i ≤ 11 ∨ 32 = 31) by omega) (F_n F109 (show ¬ (32 = 1 ∧ 6 ≤ i ∧ i ≤ 11) by omega) (F_n F85 (show ¬ (32 = 1 ∧ 6 ≤ i ∧ i ≤ 11 ∨ 32 = 30) by omega) rfl))))))) (fun i hi => ((rfl).trans ((p_215 i hi).trans ((L_n W199 (by omega) (F_nl F178 (show ¬ (33 = 1 ∧ 6 ≤ i ∧ i ≤ 11) by omega) (F_nl F154 (show ¬ (33 = 1 ∧ 6 ≤ i ∧ i ≤ 11 ∨ 33 = 32) by omega) (F_nl F131 (show ¬ (33 = 1 ∧ 6 ≤ i ∧ i ≤ 11 ∨ 33 = 31) by omega) (F_nl F109 (show ¬ (33 = 1 ∧ 6 ≤ i ∧ i ≤ 11) by omega) (F_nl F85 (show ¬ (33 = 1 ∧ 6 ≤ i ∧ i ≤ 11 ∨ 33 = 30) by omega) rfl)))))))))) (fun z => by exfalso; omega) (fun _ => winl (by omega) (by omega) z_223)
            · skip
              have p_228 := p_213 (by omega)
              have p_229 := p_214 (by omega)
              have p_230 := p_216 (by omega)
              have p_231 := p_217 (by omega)
              clear p_213 p_214 p_216 p_217 p_218
              have z_232 := nd_0 (by omega) (by omega) p_230 (L_e W199) p_229
              have z_233 := z_197.trans (p_231 (x_ww t nn sg 1 n9 op A9))
              refine b_ine_t (pc := 81) rw_101_81 (A := r207.toInt) rfl (by omega) ?_
              refine to_c (pc := 86) rw_101_86 (x := (0 : Int32)) rfl rfl ?_
              refine to_is (pc := 87) rw_101_87 (ls2 := [.ref 28, .ref 1, .ref p, .ref 11, .int s, .int (0 : Int32)]) rfl rfl ?_
              have k_234 : (0 : Int32).toInt = 0 := rfl
              have j_235 := (PLs_f (fun a i z => F_n F208 (show ¬ (a = 1 ∧ 6 ≤ i ∧ i ≤ 11 ∨ a = 33) by omega) rfl) j_206)
              exact (U_101_0 (p := p) (s := s) (t := t) (nn := nn) (a := a) (sg := sg) (C9 := C9) (n9 := n9) (op := op) (A9 := A9) hX hd hp q1 q2 q3 q4 q5 q6 q7 h ((500 - (0 : Int32).toInt).toNat + 1)) M219 (0 : Int32) hG209 F220 (by omega) (by omega) (by omega) (by omega) (by omega) p_212 j_235 (fun w hw => by rw [show M219.2.2.1 15 w = M.2.2.1 15 w from (F_nl F208 (show ¬ (15 = 1 ∧ 6 ≤ w ∧ w ≤ 11 ∨ 15 = 33) by omega) (L_n W199 (by omega) (F_nl F178 (show ¬ (15 = 1 ∧ 6 ≤ w ∧ w ≤ 11) by omega) (F_nl F154 (show ¬ (15 = 1 ∧ 6 ≤ w ∧ w ≤ 11 ∨ 15 = 32) by omega) (F_nl F131 (show ¬ (15 = 1 ∧ 6 ≤ w ∧ w ≤ 11 ∨ 15 = 31) by omega) (F_nl F109 (show ¬ (15 = 1 ∧ 6 ≤ w ∧ w ≤ 11) by omega) (F_nl F85 (show ¬ (15 = 1 ∧ 6 ≤ w ∧ w ≤ 11 ∨ 15 = 30) by omega) rfl)))))))]; exact q6 w hw) (fun i hi => (((F_n F208 (show ¬ (30 = 1 ∧ 6 ≤ i ∧ i ≤ 11 ∨ 30 = 33) by omega) (W_l W199 (F_n F178 (show ¬ (30 = 1 ∧ 6 ≤ i ∧ i ≤ 11) by omega) (F_n F154 (show ¬ (30 = 1 ∧ 6 ≤ i ∧ i ≤ 11 ∨ 30 = 32) by omega) (F_n F131 (show ¬ (30 = 1 ∧ 6 ≤ i ∧ i ≤ 11 ∨ 30 = 31) by omega) (F_n F109 (show ¬ (30 = 1 ∧ 6 ≤ i ∧ i ≤ 11) by omega) rfl))))))).trans ((p_93 i hi).trans (rfl)))) (fun i hi => (((F_n F208 (show ¬ (31 = 1 ∧ 6 ≤ i ∧ i ≤ 11 ∨ 31 = 33) by omega) (W_l W199 (F_n F178 (show ¬ (31 = 1 ∧ 6 ≤ i ∧ i ≤ 11) by omega) (F_n F154 (show ¬ (31 = 1 ∧ 6 ≤ i ∧ i ≤ 11 ∨ 31 = 32) by omega) rfl))))).trans ((p_139 i hi).trans ((F_n F109 (show ¬ (31 = 1 ∧ 6 ≤ i ∧ i ≤ 11) by omega) (F_n F85 (show ¬ (31 = 1 ∧ 6 ≤ i ∧ i ≤ 11 ∨ 31 = 30) by omega) rfl)))))) (fun i hi => (((F_n F208 (show ¬ (32 = 1 ∧ 6 ≤ i ∧ i ≤ 11 ∨ 32 = 33) by omega) (W_l W199 (F_n F178 (show ¬ (32 = 1 ∧ 6 ≤ i ∧ i ≤ 11) by omega) rfl)))).trans ((p_162 i hi).trans ((F_n F131 (show ¬ (32 = 1 ∧ 6 ≤ i ∧ i ≤ 11 ∨ 32 = 31) by omega) (F_n F109 (show ¬ (32 = 1 ∧ 6 ≤ i ∧ i ≤ 11) by omega) (F_n F85 (show ¬ (32 = 1 ∧ 6 ≤ i ∧ i ≤ 11 ∨ 32 = 30) by omega) rfl))))))) (fun i hi => ((rfl).trans ((p_215 i hi).trans ((L_n W199 (by omega) (F_nl F178 (show ¬ (33 = 1 ∧ 6 ≤ i ∧ i ≤ 11) by omega) (F_nl F154 (show ¬ (33 = 1 ∧ 6 ≤ i ∧ i ≤ 11 ∨ 33 = 32) by omega) (F_nl F131 (show ¬ (33 = 1 ∧ 6 ≤ i ∧ i ≤ 11 ∨ 33 = 31) by omega) (F_nl F109 (show ¬ (33 = 1 ∧ 6 ≤ i ∧ i ≤ 11) by omega) (F_nl F85 (show ¬ (33 = 1 ∧ 6 ≤ i ∧ i ≤ 11 ∨ 33 = 30) by omega) rfl)))))))))) ⟨(congrArg Int32.toInt ((F_n F208 (show ¬ (30 = 1 ∧ 6 ≤ (s.toInt).toNat ∧ (s.toInt).toNat ≤ 11 ∨ 30 = 33) by omega) (W_l W199 (F_n F178 (show ¬ (30 = 1 ∧ 6 ≤ (s.toInt).toNat ∧ (s.toInt).toNat ≤ 11) by omega) (F_n F154 (show ¬ (30 = 1 ∧ 6 ≤ (s.toInt).toNat ∧ (s.toInt).toNat ≤ 11 ∨ 30 = 32) by omega) (F_n F131 (show ¬ (30 = 1 ∧ 6 ≤ (s.toInt).toNat ∧ (s.toInt).toNat ≤ 11 ∨ 30 = 31) by omega) (F_n F109 (show ¬ (30 = 1 ∧ 6 ≤ (s.toInt).toNat ∧ (s.toInt).toNat ≤ 11) by omega) rfl)))))))).trans z_104, (congrArg Int32.toInt ((F_n F208 (show ¬ (31 = 1 ∧ 6 ≤ (s.toInt).toNat ∧ (s.toInt).toNat ≤ 11 ∨ 31 = 33) by omega) (W_l W199 (F_n F178 (show ¬ (31 = 1 ∧ 6 ≤ (s.toInt).toNat ∧ (s.toInt).toNat ≤ 11) by omega) (F_n F154 (show ¬ (31 = 1 ∧ 6 ≤ (s.toInt).toNat ∧ (s.toInt).toNat ≤ 11 ∨ 31 = 32) by omega) rfl)))))).trans z_150, (congrArg Int32.toInt ((F_n F208 (show ¬ (32 = 1 ∧ 6 ≤ (s.toInt).toNat ∧ (s.toInt).toNat ≤ 11 ∨ 32 = 33) by omega) (W_l W199 (F_n F178 (show ¬ (32 = 1 ∧ 6 ≤ (s.toInt).toNat ∧ (s.toInt).toNat ≤ 11) by omega) rfl))))).trans z_173⟩ z_232 z_233 (by omega)
set_option maxRecDepth 4000 in
set_option maxHeartbeats 0 in
theorem E_104 {X : mm_X} {d : Nat} {M : mm_M} {Q : Option Value → mm_M → Prop} {s : Int32} {t : Nat → Int} {nn : Int} {a : Int} (hX : g_X X) (hd : 2 ≤ d) (hG : g_G M) (q1 : 0 ≤ s.toInt) (q2 : s.toInt ≤ 39) (q3 : CS M t nn) (q4 : (M.2.1 1 9).toInt = a) (h : ∀ (r : Int32) (M1 : mm_M), g_G M1 → FR md_w101 M M1 → (0 ≤ r.toInt) → (r.toInt ≤ 1) → CS M1 t nn → ((r.toInt = 1 → (M1.2.1 30 (s.toInt).toNat).toInt = x_kp t nn a ∧ (M1.2.1 31 (s.toInt).toNat).toInt = x_kp t nn (x_ns t nn a))) → (∀ i : Nat, ¬ i = (s.toInt).toNat → M1.2.1 30 i = M.2.1 30 i) → (∀ i : Nat, ¬ i = (s.toInt).toNat → M1.2.1 31 i = M.2.1 31 i) → (∀ i : Nat, ¬ i = (s.toInt).toNat → M1.2.1 32 i = M.2.1 32 i) → (∀ i : Nat, ¬ i = (s.toInt).toNat → M1.2.2.1 33 i = M.2.2.1 33 i) → ((r.toInt = 1 → ∀ k : Int → x_WR, x_wjn t nn a k = k (M1.2.1 1 9).toInt)) → ((r.toInt = 0 → ∀ k : Int → x_WR, x_wjn t nn a k = Sum.inl ((M1.2.1 1 10).toInt, (M1.2.1 1 11).toInt))) → Q (some (.int r)) M1) : mm_T X d 104 0 [.ref 28, .ref 1, .int s, .null] [] M Q := by
  have F0 : FR md_w101 M M := FR.rf
  have z_1 := x_pk_b (t := t) (nn := nn) (a := a)
  have z_2 := x_pk_b (t := t) (nn := nn) (a := (x_ns t nn a))
  refine to_an (pc := 0) rw_104_0 rfl ?_
  refine to_an (pc := 1) rw_104_1 rfl ?_
  refine to_an (pc := 2) rw_104_2 rfl ?_
  refine s_gR (pc := 3) rw_104_3 hG rfl (v := 30) rfl ?_
  refine to_in (pc := 6) rw_104_6 rfl ?_
  refine s_v (pc := 7) rw_104_7 (dp0 hd (by decide)) (ls0 := [.ref 28, .ref 1, .ref 30, .int s, .null]) rfl (Nat.le_of_ble_eq_true rfl) (Nat.le_of_ble_eq_true rfl) rfl (to_rc rfl rfl rfl (g_o hG rfl)) rfl ?_
  refine E_102x hX (dp1 hd (by decide)) hG (by omega) (by omega) q3 (by omega) (s := s) (t := t) (nn := nn) (a := a) (fun r3 M13 hG5 F4 p_6 p_7 p_8 p_9 p_10 p_11 p_12 => ?_)
  have F14 := FR.c F0 F4 tg_162
  rcases (show r3.toInt = 0 ∨ r3.toInt = 1 by omega) with h15 | h15
  · skip
    have p_16 := p_11 (by omega)
    clear p_9 p_10 p_11
    refine b_ine_f (pc := 10) rw_104_10 (A := r3.toInt) rfl (by omega) ?_
    refine to_c (pc := 13) rw_104_13 (x := (0 : Int32)) rfl rfl ?_
    refine s_r1 (pc := 14) rw_104_14 (A := 0) rfl (by decide) ?_
    have k_17 : (0 : Int32).toInt = 0 := rfl
    have t_18 : (M13.2.1 31 (s.toInt).toNat).toInt = (M.2.1 31 (s.toInt).toNat).toInt := congrArg Int32.toInt (F_n F4 (show ¬ (31 = 1 ∧ 6 ≤ ((s.toInt).toNat) ∧ ((s.toInt).toNat) ≤ 11 ∨ 31 = 30) by omega) rfl)
    exact h (0 : Int32) M13 hG5 F14 (by decide) (by decide) p_8 (fun z => by exfalso; omega) (fun i hi => ((rfl).trans ((p_12 i hi).trans (rfl)))) (fun i hi => (F_n F4 (show ¬ (31 = 1 ∧ 6 ≤ i ∧ i ≤ 11 ∨ 31 = 30) by omega) rfl)) (fun i hi => (F_n F4 (show ¬ (32 = 1 ∧ 6 ≤ i ∧ i ≤ 11 ∨ 32 = 30) by omega) rfl)) (fun i hi => (F_nl F4 (show ¬ (33 = 1 ∧ 6 ≤ i ∧ i ≤ 11 ∨ 33 = 30) by omega) rfl)) (fun z => by exfalso; omega) (fun _ k9 => winl (by omega) (by omega) (wj_1 (by omega)))
  · skip
    have p_19 := p_9 (by omega)
    have p_20 := p_10 (by omega)
    clear p_9 p_10 p_11
    have z_21 : (M13.2.1 30 (s.toInt).toNat).toInt = x_kp t nn a := by omega
    refine b_ine_t (pc := 10) rw_104_10 (A := r3.toInt) rfl (by omega) ?_
    refine to_an (pc := 15) rw_104_15 rfl ?_
    refine tt_gI (pc := 16) rw_104_16 (g_o hG5 rfl) (v := (M13.2.1 1 9)) rfl ?_
    refine to_isn (pc := 19) rw_104_19 (ls2 := [.ref 28, .ref 1, .int s, .int (M13.2.1 1 9)]) rfl rfl ?_
    refine to_an (pc := 20) rw_104_20 rfl ?_
    refine to_an (pc := 21) rw_104_21 rfl ?_
    refine to_an (pc := 22) rw_104_22 rfl ?_
    refine s_gR (pc := 23) rw_104_23 hG5 rfl (v := 31) rfl ?_
    refine to_in (pc := 26) rw_104_26 rfl ?_
    refine s_v (pc := 27) rw_104_27 (dp0 hd (by decide)) (ls0 := [.ref 28, .ref 1, .ref 31, .int s, .null]) rfl (Nat.le_of_ble_eq_true rfl) (Nat.le_of_ble_eq_true rfl) rfl (to_rc rfl rfl rfl (g_o hG5 rfl)) rfl ?_
    refine E_102y hX (dp1 hd (by decide)) hG5 (by omega) (by omega) p_8 (by omega) (s := s) (t := t) (nn := nn) (a := (x_ns t nn a)) (fun r22 M32 hG24 F23 p_25 p_26 p_27 p_28 p_29 p_30 p_31 => ?_)
    have F33 := FR.c F14 F23 tg_163
    rcases (show r22.toInt = 0 ∨ r22.toInt = 1 by omega) with h34 | h34
    · skip
      have p_35 := p_30 (by omega)
      clear p_28 p_29 p_30
      refine b_ine_f (pc := 30) rw_104_30 (A := r22.toInt) rfl (by omega) ?_
      refine to_c (pc := 33) rw_104_33 (x := (0 : Int32)) rfl rfl ?_
      refine s_r1 (pc := 34) rw_104_34 (A := 0) rfl (by decide) ?_
      have k_36 : (0 : Int32).toInt = 0 := rfl
      have t_37 : (M32.2.1 30 (s.toInt).toNat).toInt = (M13.2.1 30 (s.toInt).toNat).toInt := congrArg Int32.toInt (F_n F23 (show ¬ (30 = 1 ∧ 6 ≤ ((s.toInt).toNat) ∧ ((s.toInt).toNat) ≤ 11 ∨ 30 = 31) by omega) rfl)
      exact h (0 : Int32) M32 hG24 F33 (by decide) (by decide) p_27 (fun z => by exfalso; omega) (fun i hi => (((F_n F23 (show ¬ (30 = 1 ∧ 6 ≤ i ∧ i ≤ 11 ∨ 30 = 31) by omega) rfl)).trans ((p_12 i hi).trans (rfl)))) (fun i hi => ((rfl).trans ((p_31 i hi).trans ((F_n F4 (show ¬ (31 = 1 ∧ 6 ≤ i ∧ i ≤ 11 ∨ 31 = 30) by omega) rfl))))) (fun i hi => (F_n F23 (show ¬ (32 = 1 ∧ 6 ≤ i ∧ i ≤ 11 ∨ 32 = 31) by omega) (F_n F4 (show ¬ (32 = 1 ∧ 6 ≤ i ∧ i ≤ 11 ∨ 32 = 30) by omega) rfl))) (fun i hi => (F_nl F23 (show ¬ (33 = 1 ∧ 6 ≤ i ∧ i ≤ 11 ∨ 33 = 31) by omega) (F_nl F4 (show ¬ (33 = 1 ∧ 6 ≤ i ∧ i ≤ 11 ∨ 33 = 30) by omega) rfl))) (fun z => by exfalso; omega) (fun _ k9 => winl (by omega) (by omega) (wj_2 (by omega) (by omega)))
    · skip
      have p_38 := p_28 (by omega)
      have p_39 := p_29 (by omega)
      clear p_28 p_29 p_30
      have z_40 : (M32.2.1 31 (s.toInt).toNat).toInt = x_kp t nn (x_ns t nn a) := by omega
      refine b_ine_t (pc := 30) rw_104_30 (A := r22.toInt) rfl (by omega) ?_
      refine to_an (pc := 35) rw_104_35 rfl ?_
      refine s_gR (pc := 36) rw_104_36 hG24 rfl (v := 30) rfl ?_
      refine to_in (pc := 39) rw_104_39 rfl ?_
      refine s_ial (pc := 40) rw_104_40 hG24 rfl (n := 40) rfl rfl (A := s.toInt) rfl (by omega) (by omega) (lo := 0) (hi := 5) rfl rfl (fun v41 w_42 _ _ => ?_)
      have t_43 := congrArg Int32.toInt w_42
      have z_44 := (congrArg Int32.toInt (show M32.2.1 30 ((s.toInt).toNat) = M13.2.1 30 ((s.toInt).toNat) from (F_n F23 (show ¬ (30 = 1 ∧ 6 ≤ ((s.toInt).toNat) ∧ ((s.toInt).toNat) ≤ 11 ∨ 30 = 31) by omega) rfl)))
      refine to_an (pc := 41) rw_104_41 rfl ?_
      refine s_gR (pc := 42) rw_104_42 hG24 rfl (v := 31) rfl ?_
      refine to_in (pc := 45) rw_104_45 rfl ?_
      refine s_ial (pc := 46) rw_104_46 hG24 rfl (n := 40) rfl rfl (A := s.toInt) rfl (by omega) (by omega) (lo := 0) (hi := 5) rfl rfl (fun v45 w_46 _ _ => ?_)
      have t_47 := congrArg Int32.toInt w_46
      have z_48 := (congrArg Int32.toInt (show M32.2.1 31 ((s.toInt).toNat) = M32.2.1 31 ((s.toInt).toNat) from rfl))
      refine b_cne (pc := 47) rw_104_47 (A := v41.toInt) (B := v45.toInt) rfl rfl (fun h49 => ?_) (fun h49 => ?_)
      · refine to_an (pc := 57) rw_104_57 rfl ?_
        refine to_c (pc := 58) rw_104_58 (x := (59 : Int32)) rfl rfl ?_
        refine s_v (pc := 60) rw_104_60 (dp0 hd (by decide)) (ls0 := [.ref 1, .int (59 : Int32)]) rfl (Nat.le_of_ble_eq_true rfl) (Nat.le_of_ble_eq_true rfl) rfl (to_rc rfl rfl rfl (g_o hG24 rfl)) rfl ?_
        have k_50 : (59 : Int32).toInt = 59 := rfl
        refine E_90s hX (dp1 hd (by decide)) hG24 p_27 (by omega) (by omega) (c := (59 : Int32)) (t := t) (nn := nn) (a := (x_ns t nn (x_ns t nn a))) (fun r51 M60 hG53 F52 p_54 p_55 p_56 p_57 p_58 p_59 => ?_)
        have F61 := FR.c F33 F52 tg_160
        rcases (show r51.toInt = 0 ∨ r51.toInt = 1 by omega) with h62 | h62
        · skip
          have p_63 := p_58 (by omega)
          have p_64 := p_59 (by omega)
          clear p_57 p_58 p_59
          refine s_r1 (pc := 63) rw_104_63 (A := r51.toInt) rfl (by omega) ?_
          have t_65 : (M60.2.1 30 (s.toInt).toNat).toInt = (M13.2.1 30 (s.toInt).toNat).toInt := congrArg Int32.toInt (F_n F52 (show ¬ (30 = 1 ∧ 6 ≤ ((s.toInt).toNat) ∧ ((s.toInt).toNat) ≤ 11) by omega) (F_n F23 (show ¬ (30 = 1 ∧ 6 ≤ ((s.toInt).toNat) ∧ ((s.toInt).toNat) ≤ 11 ∨ 30 = 31) by omega) rfl))
          have t_66 : (M60.2.1 31 (s.toInt).toNat).toInt = (M32.2.1 31 (s.toInt).toNat).toInt := congrArg Int32.toInt (F_n F52 (show ¬ (31 = 1 ∧ 6 ≤ ((s.toInt).toNat) ∧ ((s.toInt).toNat) ≤ 11) by omega) rfl)
          exact h r51 M60 hG53 F61 (by omega) (by omega) p_56 (fun z => by exfalso; omega) (fun i hi => (((F_n F52 (show ¬ (30 = 1 ∧ 6 ≤ i ∧ i ≤ 11) by omega) (F_n F23 (show ¬ (30 = 1 ∧ 6 ≤ i ∧ i ≤ 11 ∨ 30 = 31) by omega) rfl))).trans ((p_12 i hi).trans (rfl)))) (fun i hi => (((F_n F52 (show ¬ (31 = 1 ∧ 6 ≤ i ∧ i ≤ 11) by omega) rfl)).trans ((p_31 i hi).trans ((F_n F4 (show ¬ (31 = 1 ∧ 6 ≤ i ∧ i ≤ 11 ∨ 31 = 30) by omega) rfl))))) (fun i hi => (F_n F52 (show ¬ (32 = 1 ∧ 6 ≤ i ∧ i ≤ 11) by omega) (F_n F23 (show ¬ (32 = 1 ∧ 6 ≤ i ∧ i ≤ 11 ∨ 32 = 31) by omega) (F_n F4 (show ¬ (32 = 1 ∧ 6 ≤ i ∧ i ≤ 11 ∨ 32 = 30) by omega) rfl)))) (fun i hi => (F_nl F52 (show ¬ (33 = 1 ∧ 6 ≤ i ∧ i ≤ 11) by omega) (F_nl F23 (show ¬ (33 = 1 ∧ 6 ≤ i ∧ i ≤ 11 ∨ 33 = 31) by omega) (F_nl F4 (show ¬ (33 = 1 ∧ 6 ≤ i ∧ i ≤ 11 ∨ 33 = 30) by omega) rfl)))) (fun z => by exfalso; omega) (fun _ k9 => winl (by omega) (by omega) (wj_4 (by omega) (by omega) (by omega) (by omega)))
        · skip
          have p_67 := p_57 (by omega)
          clear p_57 p_58 p_59
          refine s_r1 (pc := 63) rw_104_63 (A := r51.toInt) rfl (by omega) ?_
          have t_68 : (M60.2.1 30 (s.toInt).toNat).toInt = (M13.2.1 30 (s.toInt).toNat).toInt := congrArg Int32.toInt (F_n F52 (show ¬ (30 = 1 ∧ 6 ≤ ((s.toInt).toNat) ∧ ((s.toInt).toNat) ≤ 11) by omega) (F_n F23 (show ¬ (30 = 1 ∧ 6 ≤ ((s.toInt).toNat) ∧ ((s.toInt).toNat) ≤ 11 ∨ 30 = 31) by omega) rfl))
          have t_69 : (M60.2.1 31 (s.toInt).toNat).toInt = (M32.2.1 31 (s.toInt).toNat).toInt := congrArg Int32.toInt (F_n F52 (show ¬ (31 = 1 ∧ 6 ≤ ((s.toInt).toNat) ∧ ((s.toInt).toNat) ≤ 11) by omega) rfl)
          exact h r51 M60 hG53 F61 (by omega) (by omega) p_56 (fun _ => ⟨(congrArg Int32.toInt ((F_n F52 (show ¬ (30 = 1 ∧ 6 ≤ (s.toInt).toNat ∧ (s.toInt).toNat ≤ 11) by omega) (F_n F23 (show ¬ (30 = 1 ∧ 6 ≤ (s.toInt).toNat ∧ (s.toInt).toNat ≤ 11 ∨ 30 = 31) by omega) rfl)))).trans z_21, (congrArg Int32.toInt ((F_n F52 (show ¬ (31 = 1 ∧ 6 ≤ (s.toInt).toNat ∧ (s.toInt).toNat ≤ 11) by omega) rfl))).trans z_40⟩) (fun i hi => (((F_n F52 (show ¬ (30 = 1 ∧ 6 ≤ i ∧ i ≤ 11) by omega) (F_n F23 (show ¬ (30 = 1 ∧ 6 ≤ i ∧ i ≤ 11 ∨ 30 = 31) by omega) rfl))).trans ((p_12 i hi).trans (rfl)))) (fun i hi => (((F_n F52 (show ¬ (31 = 1 ∧ 6 ≤ i ∧ i ≤ 11) by omega) rfl)).trans ((p_31 i hi).trans ((F_n F4 (show ¬ (31 = 1 ∧ 6 ≤ i ∧ i ≤ 11 ∨ 31 = 30) by omega) rfl))))) (fun i hi => (F_n F52 (show ¬ (32 = 1 ∧ 6 ≤ i ∧ i ≤ 11) by omega) (F_n F23 (show ¬ (32 = 1 ∧ 6 ≤ i ∧ i ≤ 11 ∨ 32 = 31) by omega) (F_n F4 (show ¬ (32 = 1 ∧ 6 ≤ i ∧ i ≤ 11 ∨ 32 = 30) by omega) rfl)))) (fun i hi => (F_nl F52 (show ¬ (33 = 1 ∧ 6 ≤ i ∧ i ≤ 11) by omega) (F_nl F23 (show ¬ (33 = 1 ∧ 6 ≤ i ∧ i ≤ 11 ∨ 33 = 31) by omega) (F_nl F4 (show ¬ (33 = 1 ∧ 6 ≤ i ∧ i ≤ 11 ∨ 33 = 30) by omega) rfl)))) (fun _ k9 => by rw [show (M60.2.1 1 9).toInt = (x_ns t nn (x_ns t nn (x_ns t nn a))) by omega]; exact wj_y (by omega) (by omega) (by omega) (by omega)) (fun z => by exfalso; omega)
      · refine to_an (pc := 50) rw_104_50 rfl ?_
        refine to_c (pc := 51) rw_104_51 (x := (3 : Int32)) rfl rfl ?_
        refine to_in (pc := 52) rw_104_52 rfl ?_
        refine s_v (pc := 53) rw_104_53 (dp0 hd (by decide)) (ls0 := [.ref 1, .int (3 : Int32), .int (M13.2.1 1 9)]) rfl (Nat.le_of_ble_eq_true rfl) (Nat.le_of_ble_eq_true rfl) rfl (to_rc rfl rfl rfl (g_o hG24 rfl)) rfl ?_
        refine to_an (pc := 0) rw_85_0 rfl ?_
        refine to_in (pc := 1) rw_85_1 rfl ?_
        refine s_pI (pc := 2) rw_85_2 hG24 rfl (fun M71 W70 => ?_)
        have hG72 := g_wf hG24 W70 rfl rfl (by decide)
        have F73 := FR.w F33 W70 (show 1 = 1 ∧ 6 ≤ 10 ∧ 10 ≤ 11 ∨ 30 ≤ 1 ∧ 1 ≤ 33 by decide)
        refine to_an (pc := 5) rw_85_5 rfl ?_
        refine to_in (pc := 6) rw_85_6 rfl ?_
        refine s_pI (pc := 7) rw_85_7 hG72 rfl (fun M75 W74 => ?_)
        have hG76 := g_wf hG72 W74 rfl rfl (by decide)
        have F77 := FR.w F73 W74 (show 1 = 1 ∧ 6 ≤ 11 ∧ 11 ≤ 11 ∨ 30 ≤ 1 ∧ 1 ≤ 33 by decide)
        refine to_c (pc := 10) rw_85_10 (x := (0 : Int32)) rfl rfl ?_
        refine s_r1 (pc := 11) rw_85_11 (A := 0) rfl (by decide) ?_
        refine s_r1 (pc := 56) rw_104_56 (A := 0) rfl (by decide) ?_
        have k_78 : (0 : Int32).toInt = 0 := rfl
        have j_79 := (CS_f (fun a i z => W_n W74 (tg_32 a i z) rfl) (CS_f (fun a i z => W_n W70 (tg_33 a i z) rfl) p_27))
        have t_80 : (M75.2.1 30 (s.toInt).toNat).toInt = (M13.2.1 30 (s.toInt).toNat).toInt := congrArg Int32.toInt (W_n W74 (by omega) (W_n W70 (by omega) (F_n F23 (show ¬ (30 = 1 ∧ 6 ≤ ((s.toInt).toNat) ∧ ((s.toInt).toNat) ≤ 11 ∨ 30 = 31) by omega) rfl)))
        have t_81 : (M75.2.1 31 (s.toInt).toNat).toInt = (M32.2.1 31 (s.toInt).toNat).toInt := congrArg Int32.toInt (W_n W74 (by omega) (W_n W70 (by omega) rfl))
        have c_82 : M75.2.1 1 10 = (3 : Int32) := (W_n W74 (by decide) (W_e W70))
        have k_83 : (3 : Int32).toInt = 3 := rfl
        have t_84 : (M75.2.1 1 10).toInt = (3 : Int32).toInt := congrArg Int32.toInt c_82
        have c_85 : M75.2.1 1 11 = (M13.2.1 1 9) := (W_e W74)
        have t_86 : (M75.2.1 1 11).toInt = (M13.2.1 1 9).toInt := congrArg Int32.toInt c_85
        exact h (0 : Int32) M75 hG76 F77 (by decide) (by decide) j_79 (fun z => by exfalso; omega) (fun i hi => (((W_n W74 (by omega) (W_n W70 (by omega) (F_n F23 (show ¬ (30 = 1 ∧ 6 ≤ i ∧ i ≤ 11 ∨ 30 = 31) by omega) rfl)))).trans ((p_12 i hi).trans (rfl)))) (fun i hi => (((W_n W74 (by omega) (W_n W70 (by omega) rfl))).trans ((p_31 i hi).trans ((F_n F4 (show ¬ (31 = 1 ∧ 6 ≤ i ∧ i ≤ 11 ∨ 31 = 30) by omega) rfl))))) (fun i hi => (W_n W74 (by omega) (W_n W70 (by omega) (F_n F23 (show ¬ (32 = 1 ∧ 6 ≤ i ∧ i ≤ 11 ∨ 32 = 31) by omega) (F_n F4 (show ¬ (32 = 1 ∧ 6 ≤ i ∧ i ≤ 11 ∨ 32 = 30) by omega) rfl))))) (fun i hi => (W_j W74 (W_j W70 (F_nl F23 (show ¬ (33 = 1 ∧ 6 ≤ i ∧ i ≤ 11 ∨ 33 = 31) by omega) (F_nl F4 (show ¬ (33 = 1 ∧ 6 ≤ i ∧ i ≤ 11 ∨ 33 = 30) by omega) rfl))))) (fun z => by exfalso; omega) (fun _ k9 => winl (by omega) (by omega) (wj_3 (by omega) (by omega) (by omega)))
