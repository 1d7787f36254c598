theorem tg_165 : ∀ a i : Nat, (a = 1 ∧ (i = 10 ∨ i = 11)) → (a = 1 ∧ 6 ≤ i ∧ i ≤ 11 ∨ 28 ≤ a ∧ a ≤ 35) := fun a i z => by omega
theorem tg_166 : ∀ a i : Nat, (a = 1 ∧ 6 ≤ i ∧ i ≤ 9) → (a = 1 ∧ 6 ≤ i ∧ i ≤ 11 ∨ 28 ≤ a ∧ a ≤ 35) := fun a i z => by omega
theorem tg_167 : ∀ a i : Nat, (a = 1 ∧ 6 ≤ i ∧ i ≤ 11) → (a = 1 ∧ 6 ≤ i ∧ i ≤ 11 ∨ 28 ≤ a ∧ a ≤ 35) := fun a i z => by omega
theorem tg_168 : ∀ a i : Nat, (a = 1 ∧ 6 ≤ i ∧ i ≤ 11 ∨ 28 ≤ a ∧ a ≤ 35) → (a = 1 ∧ 6 ≤ i ∧ i ≤ 11 ∨ 28 ≤ a ∧ a ≤ 35) := fun a i z => by omega
theorem tg_169 : ∀ a i : Nat, (a = 1 ∧ 6 ≤ i ∧ i ≤ 11 ∨ 30 ≤ a ∧ a ≤ 33) → (a = 1 ∧ 6 ≤ i ∧ i ≤ 11 ∨ 28 ≤ a ∧ a ≤ 35) := fun a i z => by omega
theorem tg_170 : ∀ a i j : Nat, (a = 1 ∧ 5 ≤ i ∧ i ≤ 9 ∨ 3 ≤ a ∧ a ≤ 5) → ¬ (a = 34 ∧ i = j) := fun a i j z => by omega
theorem tg_171 : ∀ a i j : Nat, (a = 1 ∧ 5 ≤ i ∧ i ≤ 9 ∨ 3 ≤ a ∧ a ≤ 5) → ¬ (a = 29 ∧ i = j) := fun a i j z => by omega
theorem tg_172 : ∀ a i : Nat, (a = 1 ∧ 5 ≤ i ∧ i ≤ 9 ∨ 3 ≤ a ∧ a ≤ 5) → ¬ (a = 28 ∧ i = 7) := fun a i z => by omega
theorem tg_173 : ∀ a i j : Nat, (a = 1 ∧ 5 ≤ i ∧ i ≤ 9 ∨ 3 ≤ a ∧ a ≤ 5) → ¬ (a = 35 ∧ i = j) := fun a i j z => by omega
noncomputable def RE_99 (k : Int) : Prop := ∀ (X : mm_X) (d : Nat) (M : mm_M) (Q : Option Value → mm_M → Prop) (p : Nat) (o : Int32) (t : Nat → Int) (nn : Int) (a : Int) (sg : x_S) (C9 : Nat → Int64) (n9 : Int) (op : List Int) (A9 : x_A), g_X X → (5 + 3 * (5 - o.toInt) ≤ (d : Int)) → g_G M → (p = 49 ∨ p = 58) → (0 ≤ o.toInt) → (o.toInt ≤ 5) → CS M t nn → ((M.2.1 1 9).toInt = a) → PLs M p sg → (∀ w : Nat, (w : Int) < sg.2.2.1 → M.2.2.1 15 w = C9 w) → (nn ≤ 500) → (0 ≤ n9) → (WKc (x_DD t nn sg C9) M A9 n9 op) → ((op.length : Int) = o.toInt) → (∀ m ∈ op, m < n9) → ((M.2.1 28 7).toInt = n9) → 5 - o.toInt < k → (∀ (r : Int32) (M1 : mm_M), g_G M1 → FR md_w100 M M1 → (0 ≤ r.toInt) → (r.toInt ≤ 1) → CS M1 t nn → (r.toInt = 1 → n9 ≤ (M1.2.1 28 7).toInt) → ((r.toInt = 1 → WQ (x_DD t nn sg C9) t nn sg (x_ww t nn sg 0 n9 op A9 a) M1 A9 n9 op o.toInt ∧ ¬ x_kind t nn (M1.2.1 1 9).toInt = 1)) → ((r.toInt = 0 → x_ww t nn sg 0 n9 op A9 a = Sum.inl ((M1.2.1 1 10).toInt, (M1.2.1 1 11).toInt))) → Q (some (.int r)) M1) → mm_T X d 99 0 [.ref 28, .ref 1, .ref p, .ref 11, .int o, .null] [] M Q
set_option maxRecDepth 4000 in
set_option maxHeartbeats 0 in
theorem E_105 {X : mm_X} {d : Nat} {M : mm_M} {Q : Option Value → mm_M → Prop} {p : Nat} {o : Int32} {s : Int32} {t : Nat → Int} {nn : Int} {a : Int} {sg : x_S} {C9 : Nat → Int64} {n9 : Int} {op : List Int} {A9 : x_A} (hX : g_X X) (hd : 3 + 3 * (5 - o.toInt) ≤ (d : Int)) (hG : g_G M) (hp : p = 49 ∨ p = 58) (q1 : 0 ≤ o.toInt) (q2 : o.toInt ≤ 5) (q3 : 0 ≤ s.toInt) (q4 : s.toInt ≤ 39) (q5 : CS M t nn) (q6 : (M.2.1 1 9).toInt = a) (q7 : PLs M p sg) (q8 : ∀ w : Nat, (w : Int) < sg.2.2.1 → M.2.2.1 15 w = C9 w) (q9 : nn ≤ 500) (q10 : 0 ≤ n9) (q11 : WKc (x_DD t nn sg C9) M A9 n9 op) (q12 : (op.length : Int) = o.toInt) (q13 : ∀ m ∈ op, m < n9) (q14 : s.toInt = n9) (q15 : (M.2.1 28 7).toInt = n9 + 1) (q16 : (M.2.1 29 n9.toNat).toInt = 40936896) (hr : RE_99 (5 - o.toInt)) (h : ∀ (r : Int32) (M1 : mm_M), g_G M1 → FR md_w100 M M1 → (0 ≤ r.toInt) → (r.toInt ≤ 1) → CS M1 t nn → (r.toInt = 1 → n9 < (M1.2.1 28 7).toInt) → ((r.toInt = 1 → WA (x_DD t nn sg C9) t nn sg (x_wag t nn o.toInt a (fun tm => x_ww t nn sg 0 (n9 + 1) (n9 :: op) (x_kt A9 n9 tm))) M1 A9 n9 op o.toInt)) → ((r.toInt = 0 → x_wag t nn o.toInt a (fun tm => x_ww t nn sg 0 (n9 + 1) (n9 :: op) (x_kt A9 n9 tm)) = Sum.inl ((M1.2.1 1 10).toInt, (M1.2.1 1 11).toInt))) → Q (some (.int r)) M1) : mm_T X d 105 0 [.ref 28, .ref 1, .ref p, .ref 11, .int o, .int s] [] M Q := by
  have F0 : FR md_w100 M M := FR.rf
  have b_1 := g_b hG (a := 28) (i := 7) (lo := 0) (hi := 40) rfl rfl
  refine to_an (pc := 0) rw_105_0 rfl ?_
  refine to_c (pc := 1) rw_105_1 (x := (0 : Int32)) rfl rfl ?_
  refine to_c (pc := 2) rw_105_2 (x := (99 : Int32)) rfl rfl ?_
  refine s_v (pc := 4) rw_105_4 (by omega) (ls0 := [.ref 1, .int (0 : Int32), .int (99 : Int32)]) rfl (Nat.le_of_ble_eq_true rfl) (Nat.le_of_ble_eq_true rfl) rfl (to_rc rfl rfl rfl (g_o hG rfl)) rfl ?_
  have k_2 : (0 : Int32).toInt = 0 := rfl
  have k_3 : (99 : Int32).toInt = 99 := rfl
  refine E_88f hX (by omega) hG q5 (by omega) (l := (0 : Int32)) (m := (99 : Int32)) (t := t) (nn := nn) (a := a) (fun r4 M14 hG6 F5 p_7 p_8 p_9 p_10 p_11 p_12 p_13 => ?_)
  have F15 := FR.c F0 F5 tg_165
  rcases (show r4.toInt = 0 ∨ r4.toInt = 1 by omega) with h16 | h16
  · skip
    have p_17 := p_10 (by omega)
    have p_18 := p_11 (by omega)
    clear p_9 p_10 p_11
    have z_19 := x_val_b (t := t) (nn := nn) (a := a)
    refine b_ine_f (pc := 7) rw_105_7 (A := r4.toInt) rfl (by omega) ?_
    refine to_c (pc := 10) rw_105_10 (x := (0 : Int32)) rfl rfl ?_
    refine s_r1 (pc := 11) rw_105_11 (A := 0) rfl (by decide) ?_
    have j_20 := (CS_f (tg_34 F5) q5)
    have c_21 : M14.2.1 28 7 = (M.2.1 28 7) := (F_n F5 (show ¬ (28 = 1 ∧ (7 = 10 ∨ 7 = 11)) by decide) rfl)
    have t_22 : (M14.2.1 28 7).toInt = (M.2.1 28 7).toInt := congrArg Int32.toInt c_21
    exact h (0 : Int32) M14 hG6 F15 (by decide) (by decide) j_20 (by omega) (fun z => by exfalso; omega) (fun _ => if g9 : x_kind t nn a = 3 then winl (by omega) (by omega) (ag_2 g9 (by omega)) else winl (by omega) (by omega) (ag_1 g9))
  · skip
    have p_23 := p_9 (by omega)
    clear p_9 p_10 p_11
    have z_24 := x_val_b (t := t) (nn := nn) (a := a) (by omega)
    refine b_ine_t (pc := 7) rw_105_7 (A := r4.toInt) rfl (by omega) ?_
    refine to_an (pc := 12) rw_105_12 rfl ?_
    refine s_gR (pc := 13) rw_105_13 hG6 rfl (v := 34) rfl ?_
    refine to_i (pc := 16) rw_105_16 rfl ?_
    refine to_an (pc := 18) rw_105_18 rfl ?_
    have c_25 : M14.2.1 1 8 = (M.2.1 1 8) := (F_n F5 (show ¬ (1 = 1 ∧ (8 = 10 ∨ 8 = 11)) by decide) rfl)
    refine tt_gI (pc := 19) rw_105_19 (g_o hG6 rfl) (v := (M.2.1 1 8)) c_25 ?_
    refine s_ias (pc := 22) rw_105_22 hG6 rfl (n := 40) rfl (A := s.toInt) rfl (by omega) (by omega) (fun M27 W26 => ?_)
    have hG28 := g_w hG6 W26 (A := (M.2.1 1 8).toInt) rfl (lo := 0) (hi := 99) rfl rfl (by omega) (by decide)
    have F29 := FR.w F15 W26 (show 34 = 1 ∧ 6 ≤ (s.toInt).toNat ∧ (s.toInt).toNat ≤ 11 ∨ 28 ≤ 34 ∧ 34 ≤ 35 by omega)
    have z_30 := WKc_w2 (WKc_f (fun a i z => (F_n F5 (show ¬ (a = 1 ∧ (i = 10 ∨ i = 11)) by omega) rfl)) (fun i => (F_nl F5 (show ¬ (33 = 1 ∧ (i = 10 ∨ i = 11)) by omega) rfl)) q11) W26 (by omega)
    refine to_an (pc := 23) rw_105_23 rfl ?_
    refine s_v (pc := 24) rw_105_24 (by omega) (ls0 := [.ref 1]) rfl (Nat.le_of_ble_eq_true rfl) (Nat.le_of_ble_eq_true rfl) rfl (to_rc rfl rfl rfl (g_o hG28 rfl)) rfl ?_
    have j_31 := (CS_f (fun a i z => W_n W26 (tg_170 a i _ z) rfl) (CS_f (tg_34 F5) q5))
    have c_32 : M27.2.1 1 9 = (M.2.1 1 9) := (W_n W26 (fun z => absurd z.1 (by decide)) (F_n F5 (show ¬ (1 = 1 ∧ (9 = 10 ∨ 9 = 11)) by decide) rfl))
    have t_33 : (M27.2.1 1 9).toInt = (M.2.1 1 9).toInt := congrArg Int32.toInt c_32
    refine E_83 hX (by omega) hG28 j_31 (by omega) (t := t) (nn := nn) (a := a) (fun M38 hG35 F34 p_36 p_37 => ?_)
    have F39 := FR.c F29 F34 tg_166
    have c_40 := CS_u p_36 (a := (x_ns t nn a)) (by omega)
    unfold x_C at c_40
    have z_41 := c_40.2
    refine to_an (pc := 27) rw_105_27 rfl ?_
    refine tt_gI (pc := 28) rw_105_28 (g_o hG35 rfl) (v := (M38.2.1 1 7)) rfl ?_
    refine to_c (pc := 31) rw_105_31 (x := (40 : Int32)) rfl rfl ?_
    refine b_cne (pc := 33) rw_105_33 (A := (M38.2.1 1 7).toInt) (B := 40) rfl rfl (fun h42 => ?_) (fun h42 => ?_)
    · have z_43 : ¬ (x_kind t nn (x_ns t nn a) = 4 ∧ x_val t nn (x_ns t nn a) = 40) := by omega
      clear c_40
      refine to_an (pc := 48) rw_105_48 rfl ?_
      refine to_c (pc := 49) rw_105_49 (x := (40 : Int32)) rfl rfl ?_
      refine s_v (pc := 51) rw_105_51 (by omega) (ls0 := [.ref 1, .int (40 : Int32)]) rfl (Nat.le_of_ble_eq_true rfl) (Nat.le_of_ble_eq_true rfl) rfl (to_rc rfl rfl rfl (g_o hG35 rfl)) rfl ?_
      have k_44 : (40 : Int32).toInt = 40 := rfl
      refine E_90s hX (by omega) hG35 p_36 (by omega) (by omega) (c := (40 : Int32)) (t := t) (nn := nn) (a := (x_ns t nn a)) (fun r45 M54 hG47 F46 p_48 p_49 p_50 p_51 p_52 p_53 => ?_)
      have F55 := FR.c F39 F46 tg_167
      rcases (show r45.toInt = 0 ∨ r45.toInt = 1 by omega) with h56 | h56
      · skip
        have p_57 := p_52 (by omega)
        have p_58 := p_53 (by omega)
        clear p_51 p_52 p_53
        refine b_ieq_t (pc := 54) rw_105_54 (A := r45.toInt) rfl (by omega) ?_
        refine to_c (pc := 84) rw_105_84 (x := (0 : Int32)) rfl rfl ?_
        refine s_r1 (pc := 85) rw_105_85 (A := 0) rfl (by decide) ?_
        have c_59 : M54.2.1 28 7 = (M.2.1 28 7) := (F_n F46 (show ¬ (28 = 1 ∧ 6 ≤ 7 ∧ 7 ≤ 11) by decide) (F_n F34 (show ¬ (28 = 1 ∧ 6 ≤ 7 ∧ 7 ≤ 9) by decide) (W_n W26 (fun z => absurd z.1 (by decide)) (F_n F5 (show ¬ (28 = 1 ∧ (7 = 10 ∨ 7 = 11)) by decide) rfl))))
        have t_60 : (M54.2.1 28 7).toInt = (M.2.1 28 7).toInt := congrArg Int32.toInt c_59
        exact h (0 : Int32) M54 hG47 F55 (by decide) (by decide) p_50 (by omega) (fun z => by exfalso; omega) (fun _ => winl (by omega) (by omega) (ag_3 (by omega) (by omega) (by omega)))
      · skip
        have p_61 := p_51 (by omega)
        clear p_51 p_52 p_53
        have z_62 : x_wag t nn o.toInt a (fun tm => x_ww t nn sg 0 (n9 + 1) (n9 :: op) (x_kt A9 n9 tm)) = x_ww t nn sg 0 (n9 + 1) (n9 :: op) (x_kt A9 n9 (x_val t nn a)) (x_ns t nn (x_ns t nn a)) := ag_y (by omega) (by omega) (by omega) (by omega)
        refine b_ieq_f (pc := 54) rw_105_54 (A := r45.toInt) rfl (by omega) ?_
        refine to_an (pc := 57) rw_105_57 rfl ?_
        refine to_an (pc := 58) rw_105_58 rfl ?_
        refine to_an (pc := 59) rw_105_59 rfl ?_
        refine to_an (pc := 60) rw_105_60 rfl ?_
        refine to_i (pc := 61) rw_105_61 rfl ?_
        refine to_c (pc := 63) rw_105_63 (x := (1 : Int32)) rfl rfl ?_
        refine s_add (pc := 64) rw_105_64 (A := o.toInt) (B := 1) rfl rfl (by omega) (fun v63 e64 => ?_)
        refine s_v (pc := 65) rw_105_65 (by omega) (ls0 := [.ref 28, .ref 1, .ref p, .ref 11, .int v63, .null]) rfl (Nat.le_of_ble_eq_true rfl) (Nat.le_of_ble_eq_true rfl) rfl (to_rc rfl rfl rfl (g_o hG47 rfl)) rfl ?_
        have j_65 := (PLs_f (fun a i z => F_n F46 (show ¬ (a = 1 ∧ 6 ≤ i ∧ i ≤ 11) by omega) rfl) (PLs_f (fun a i z => F_n F34 (show ¬ (a = 1 ∧ 6 ≤ i ∧ i ≤ 9) by omega) rfl) (PLs_f (fun a i z => W_n W26 (by /-r34-/ omega) rfl) (PLs_f (fun a i z => F_n F5 (show ¬ (a = 1 ∧ (i = 10 ∨ i = 11)) by omega) rfl) q7))))
        have z_66 : (M54.2.1 34 n9.toNat).toInt = x_val t nn a := by rw [show n9.toNat = (s.toInt).toNat by omega, show M54.2.1 34 (s.toInt).toNat = (M.2.1 1 8) from (F_n F46 (show ¬ (34 = 1 ∧ 6 ≤ (s.toInt).toNat ∧ (s.toInt).toNat ≤ 11) by omega) (F_n F34 (show ¬ (34 = 1 ∧ 6 ≤ (s.toInt).toNat ∧ (s.toInt).toNat ≤ 9) by omega) (W_e W26)))]; omega
        have z_67 : (M54.2.1 29 n9.toNat).toInt = x_kw 2 := (congrArg Int32.toInt (show M54.2.1 29 n9.toNat = M.2.1 29 n9.toNat from (F_n F46 (show ¬ (29 = 1 ∧ 6 ≤ n9.toNat ∧ n9.toNat ≤ 11) by omega) (F_n F34 (show ¬ (29 = 1 ∧ 6 ≤ n9.toNat ∧ n9.toNat ≤ 9) by omega) (W_n W26 (by omega) (F_n F5 (show ¬ (29 = 1 ∧ (n9.toNat = 10 ∨ n9.toNat = 11)) by omega) rfl)))))).trans q16
        have c_68 : M54.2.1 28 7 = (M.2.1 28 7) := (F_n F46 (show ¬ (28 = 1 ∧ 6 ≤ 7 ∧ 7 ≤ 11) by decide) (F_n F34 (show ¬ (28 = 1 ∧ 6 ≤ 7 ∧ 7 ≤ 9) by decide) (W_n W26 (fun z => absurd z.1 (by decide)) (F_n F5 (show ¬ (28 = 1 ∧ (7 = 10 ∨ 7 = 11)) by decide) rfl))))
        have t_69 : (M54.2.1 28 7).toInt = (M.2.1 28 7).toInt := congrArg Int32.toInt c_68
        refine hr X _ _ _ p v63 t nn (x_ns t nn (x_ns t nn a)) sg C9 (n9 + 1) (n9 :: op) (x_kt A9 n9 (x_val t nn a)) hX (by omega) hG47 hp (by omega) (by omega) p_50 (by omega) j_65 (fun w hw => by rw [show M54.2.2.1 15 w = M.2.2.1 15 w from (F_nl F46 (show ¬ (15 = 1 ∧ 6 ≤ w ∧ w ≤ 11) by omega) (F_nl F34 (show ¬ (15 = 1 ∧ 6 ≤ w ∧ w ≤ 9) by omega) (W_j W26 (F_nl F5 (show ¬ (15 = 1 ∧ (w = 10 ∨ w = 11)) by omega) rfl))))]; exact q8 w hw) (by omega) (by omega) (WKc_t (by omega) (WKc_f (fun a i z => (F_n F46 (show ¬ (a = 1 ∧ 6 ≤ i ∧ i ≤ 11) by omega) (F_n F34 (show ¬ (a = 1 ∧ 6 ≤ i ∧ i ≤ 9) by omega) rfl))) (fun i => (F_nl F46 (show ¬ (33 = 1 ∧ 6 ≤ i ∧ i ≤ 11) by omega) (F_nl F34 (show ¬ (33 = 1 ∧ 6 ≤ i ∧ i ≤ 9) by omega) rfl))) z_30) z_67 z_66) (by rw [List.length_cons]; omega) (fun m hm => by rcases List.mem_cons.mp hm with y | y; omega; have := q13 m y; omega) (by omega) (by omega) (fun r70 M79 hG72 F71 p_73 p_74 p_75 p_76 p_77 p_78 => ?_)
        have F80 := FR.c F55 F71 tg_168
        have b_81 := g_b hG72 (a := 28) (i := 7) (lo := 0) (hi := 40) rfl rfl
        rcases (show r70.toInt = 0 ∨ r70.toInt = 1 by omega) with h82 | h82
        · skip
          have p_83 := p_78 (by omega)
          clear p_76 p_77 p_78
          have z_84 := z_62.trans p_83
          refine b_ieq_t (pc := 68) rw_105_68 (A := r70.toInt) rfl (by omega) ?_
          refine to_c (pc := 84) rw_105_84 (x := (0 : Int32)) rfl rfl ?_
          refine s_r1 (pc := 85) rw_105_85 (A := 0) rfl (by decide) ?_
          exact h (0 : Int32) M79 hG72 F80 (by decide) (by decide) p_75 (by omega) (fun z => by exfalso; omega) (fun _ => winl (by omega) (by omega) z_84)
        · skip
          have p_85 := p_76 (by omega)
          have p_86 := p_77 (by omega)
          clear p_76 p_77 p_78
          have z_87 := WQ_e z_62 p_86.1
          have c_88 := CS_u p_75 (a := (M79.2.1 1 9).toInt) (by omega)
          unfold x_C at c_88
          have z_89 := p_86.2
          refine b_ieq_f (pc := 68) rw_105_68 (A := r70.toInt) rfl (by omega) ?_
          refine to_an (pc := 71) rw_105_71 rfl ?_
          refine to_c (pc := 72) rw_105_72 (x := (41 : Int32)) rfl rfl ?_
          refine s_v (pc := 74) rw_105_74 (by omega) (ls0 := [.ref 1, .int (41 : Int32)]) rfl (Nat.le_of_ble_eq_true rfl) (Nat.le_of_ble_eq_true rfl) rfl (to_rc rfl rfl rfl (g_o hG72 rfl)) rfl ?_
          have k_90 : (41 : Int32).toInt = 41 := rfl
          refine E_90s hX (by omega) hG72 p_75 (by omega) (by omega) (c := (41 : Int32)) (t := t) (nn := nn) (a := (M79.2.1 1 9).toInt) (fun r91 M100 hG93 F92 p_94 p_95 p_96 p_97 p_98 p_99 => ?_)
          have F101 := FR.c F80 F92 tg_167
          rcases (show r91.toInt = 0 ∨ r91.toInt = 1 by omega) with h102 | h102
          · skip
            have p_103 := p_98 (by omega)
            have p_104 := p_99 (by omega)
            clear p_97 p_98 p_99
            have z_105 := WC_x z_87 (by omega) (by omega) (by omega) (by omega)
            refine b_ieq_t (pc := 77) rw_105_77 (A := r91.toInt) rfl (by omega) ?_
            refine to_c (pc := 84) rw_105_84 (x := (0 : Int32)) rfl rfl ?_
            refine s_r1 (pc := 85) rw_105_85 (A := 0) rfl (by decide) ?_
            have c_106 : M100.2.1 28 7 = (M79.2.1 28 7) := (F_n F92 (show ¬ (28 = 1 ∧ 6 ≤ 7 ∧ 7 ≤ 11) by decide) rfl)
            have t_107 : (M100.2.1 28 7).toInt = (M79.2.1 28 7).toInt := congrArg Int32.toInt c_106
            exact h (0 : Int32) M100 hG93 F101 (by decide) (by decide) p_96 (by omega) (fun z => by exfalso; omega) (fun _ => winl (by omega) (by omega) z_105)
          · skip
            have p_108 := p_97 (by omega)
            clear p_97 p_98 p_99
            refine b_ieq_f (pc := 77) rw_105_77 (A := r91.toInt) rfl (by omega) ?_
            refine to_c (pc := 80) rw_105_80 (x := (1 : Int32)) rfl rfl ?_
            refine to_go (pc := 81) rw_105_81 ?_
            refine s_r1 (pc := 85) rw_105_85 (A := 1) rfl (by decide) ?_
            have k_109 : (1 : Int32).toInt = 1 := rfl
            have c_110 : M100.2.1 28 7 = (M79.2.1 28 7) := (F_n F92 (show ¬ (28 = 1 ∧ 6 ≤ 7 ∧ 7 ≤ 11) by decide) rfl)
            have t_111 : (M100.2.1 28 7).toInt = (M79.2.1 28 7).toInt := congrArg Int32.toInt c_110
            exact h (1 : Int32) M100 hG93 F101 (by decide) (by decide) p_96 (by omega) (fun _ => WA_i (tm := x_val t nn a) (by omega) (by omega) (by omega) (by omega) (WQ_o (by omega) z_87) (by omega) (by omega) (by omega) (fun a i z => (F_n F92 (show ¬ (a = 1 ∧ 6 ≤ i ∧ i ≤ 11) by omega) rfl)) (fun i => (F_nl F92 (show ¬ (33 = 1 ∧ 6 ≤ i ∧ i ≤ 11) by omega) rfl)) (by omega)) (fun z => by exfalso; omega)
    · have z_112 : x_kind t nn (x_ns t nn a) = 4 ∧ x_val t nn (x_ns t nn a) = 40 := by omega
      clear c_40
      refine to_i (pc := 36) rw_105_36 rfl ?_
      refine to_c (pc := 38) rw_105_38 (x := (5 : Int32)) rfl rfl ?_
      refine b_clt (pc := 39) rw_105_39 (A := o.toInt) (B := 5) rfl rfl (fun h113 => ?_) (fun h113 => ?_)
      · refine to_an (pc := 48) rw_105_48 rfl ?_
        refine to_c (pc := 49) rw_105_49 (x := (40 : Int32)) rfl rfl ?_
        refine s_v (pc := 51) rw_105_51 (by omega) (ls0 := [.ref 1, .int (40 : Int32)]) rfl (Nat.le_of_ble_eq_true rfl) (Nat.le_of_ble_eq_true rfl) rfl (to_rc rfl rfl rfl (g_o hG35 rfl)) rfl ?_
        have k_114 : (40 : Int32).toInt = 40 := rfl
        refine E_90s hX (by omega) hG35 p_36 (by omega) (by omega) (c := (40 : Int32)) (t := t) (nn := nn) (a := (x_ns t nn a)) (fun r115 M124 hG117 F116 p_118 p_119 p_120 p_121 p_122 p_123 => ?_)
        have F125 := FR.c F39 F116 tg_167
        rcases (show r115.toInt = 0 ∨ r115.toInt = 1 by omega) with h126 | h126
        · skip
          have p_127 := p_122 (by omega)
          have p_128 := p_123 (by omega)
          clear p_121 p_122 p_123
          refine b_ieq_t (pc := 54) rw_105_54 (A := r115.toInt) rfl (by omega) ?_
          refine to_c (pc := 84) rw_105_84 (x := (0 : Int32)) rfl rfl ?_
          refine s_r1 (pc := 85) rw_105_85 (A := 0) rfl (by decide) ?_
          have c_129 : M124.2.1 28 7 = (M.2.1 28 7) := (F_n F116 (show ¬ (28 = 1 ∧ 6 ≤ 7 ∧ 7 ≤ 11) by decide) (F_n F34 (show ¬ (28 = 1 ∧ 6 ≤ 7 ∧ 7 ≤ 9) by decide) (W_n W26 (fun z => absurd z.1 (by decide)) (F_n F5 (show ¬ (28 = 1 ∧ (7 = 10 ∨ 7 = 11)) by decide) rfl))))
          have t_130 : (M124.2.1 28 7).toInt = (M.2.1 28 7).toInt := congrArg Int32.toInt c_129
          exact h (0 : Int32) M124 hG117 F125 (by decide) (by decide) p_120 (by omega) (fun z => by exfalso; omega) (fun _ => winl (by omega) (by omega) (ag_3 (by omega) (by omega) (by omega)))
        · skip
          have p_131 := p_121 (by omega)
          clear p_121 p_122 p_123
          have z_132 : x_wag t nn o.toInt a (fun tm => x_ww t nn sg 0 (n9 + 1) (n9 :: op) (x_kt A9 n9 tm)) = x_ww t nn sg 0 (n9 + 1) (n9 :: op) (x_kt A9 n9 (x_val t nn a)) (x_ns t nn (x_ns t nn a)) := ag_y (by omega) (by omega) (by omega) (by omega)
          refine b_ieq_f (pc := 54) rw_105_54 (A := r115.toInt) rfl (by omega) ?_
          refine to_an (pc := 57) rw_105_57 rfl ?_
          refine to_an (pc := 58) rw_105_58 rfl ?_
          refine to_an (pc := 59) rw_105_59 rfl ?_
          refine to_an (pc := 60) rw_105_60 rfl ?_
          refine to_i (pc := 61) rw_105_61 rfl ?_
          refine to_c (pc := 63) rw_105_63 (x := (1 : Int32)) rfl rfl ?_
          refine s_add (pc := 64) rw_105_64 (A := o.toInt) (B := 1) rfl rfl (by omega) (fun v133 e134 => ?_)
          refine s_v (pc := 65) rw_105_65 (by omega) (ls0 := [.ref 28, .ref 1, .ref p, .ref 11, .int v133, .null]) rfl (Nat.le_of_ble_eq_true rfl) (Nat.le_of_ble_eq_true rfl) rfl (to_rc rfl rfl rfl (g_o hG117 rfl)) rfl ?_
          have j_135 := (PLs_f (fun a i z => F_n F116 (show ¬ (a = 1 ∧ 6 ≤ i ∧ i ≤ 11) by omega) rfl) (PLs_f (fun a i z => F_n F34 (show ¬ (a = 1 ∧ 6 ≤ i ∧ i ≤ 9) by omega) rfl) (PLs_f (fun a i z => W_n W26 (by /-r34-/ omega) rfl) (PLs_f (fun a i z => F_n F5 (show ¬ (a = 1 ∧ (i = 10 ∨ i = 11)) by omega) rfl) q7))))
          have z_136 : (M124.2.1 34 n9.toNat).toInt = x_val t nn a := by rw [show n9.toNat = (s.toInt).toNat by omega, show M124.2.1 34 (s.toInt).toNat = (M.2.1 1 8) from (F_n F116 (show ¬ (34 = 1 ∧ 6 ≤ (s.toInt).toNat ∧ (s.toInt).toNat ≤ 11) by omega) (F_n F34 (show ¬ (34 = 1 ∧ 6 ≤ (s.toInt).toNat ∧ (s.toInt).toNat ≤ 9) by omega) (W_e W26)))]; omega
          have z_137 : (M124.2.1 29 n9.toNat).toInt = x_kw 2 := (congrArg Int32.toInt (show M124.2.1 29 n9.toNat = M.2.1 29 n9.toNat from (F_n F116 (show ¬ (29 = 1 ∧ 6 ≤ n9.toNat ∧ n9.toNat ≤ 11) by omega) (F_n F34 (show ¬ (29 = 1 ∧ 6 ≤ n9.toNat ∧ n9.toNat ≤ 9) by omega) (W_n W26 (by omega) (F_n F5 (show ¬ (29 = 1 ∧ (n9.toNat = 10 ∨ n9.toNat = 11)) by omega) rfl)))))).trans q16
          have c_138 : M124.2.1 28 7 = (M.2.1 28 7) := (F_n F116 (show ¬ (28 = 1 ∧ 6 ≤ 7 ∧ 7 ≤ 11) by decide) (F_n F34 (show ¬ (28 = 1 ∧ 6 ≤ 7 ∧ 7 ≤ 9) by decide) (W_n W26 (fun z => absurd z.1 (by decide)) (F_n F5 (show ¬ (28 = 1 ∧ (7 = 10 ∨ 7 = 11)) by decide) rfl))))
          have t_139 : (M124.2.1 28 7).toInt = (M.2.1 28 7).toInt := congrArg Int32.toInt c_138
          refine hr X _ _ _ p v133 t nn (x_ns t nn (x_ns t nn a)) sg C9 (n9 + 1) (n9 :: op) (x_kt A9 n9 (x_val t nn a)) hX (by omega) hG117 hp (by omega) (by omega) p_120 (by omega) j_135 (fun w hw => by rw [show M124.2.2.1 15 w = M.2.2.1 15 w from (F_nl F116 (show ¬ (15 = 1 ∧ 6 ≤ w ∧ w ≤ 11) by omega) (F_nl F34 (show ¬ (15 = 1 ∧ 6 ≤ w ∧ w ≤ 9) by omega) (W_j W26 (F_nl F5 (show ¬ (15 = 1 ∧ (w = 10 ∨ w = 11)) by omega) rfl))))]; exact q8 w hw) (by omega) (by omega) (WKc_t (by omega) (WKc_f (fun a i z => (F_n F116 (show ¬ (a = 1 ∧ 6 ≤ i ∧ i ≤ 11) by omega) (F_n F34 (show ¬ (a = 1 ∧ 6 ≤ i ∧ i ≤ 9) by omega) rfl))) (fun i => (F_nl F116 (show ¬ (33 = 1 ∧ 6 ≤ i ∧ i ≤ 11) by omega) (F_nl F34 (show ¬ (33 = 1 ∧ 6 ≤ i ∧ i ≤ 9) by omega) rfl))) z_30) z_137 z_136) (by rw [List.length_cons]; omega) (fun m hm => by rcases List.mem_cons.mp hm with y | y; omega; have := q13 m y; omega) (by omega) (by omega) (fun r140 M149 hG142 F141 p_143 p_144 p_145 p_146 p_147 p_148 => ?_)
          have F150 := FR.c F125 F141 tg_168
          have b_151 := g_b hG142 (a := 28) (i := 7) (lo := 0) (hi := 40) rfl rfl
          rcases (show r140.toInt = 0 ∨ r140.toInt = 1 by omega) with h152 | h152
          · skip
            have p_153 := p_148 (by omega)
            clear p_146 p_147 p_148
            have z_154 := z_132.trans p_153
            refine b_ieq_t (pc := 68) rw_105_68 (A := r140.toInt) rfl (by omega) ?_
            refine to_c (pc := 84) rw_105_84 (x := (0 : Int32)) rfl rfl ?_
            refine s_r1 (pc := 85) rw_105_85 (A := 0) rfl (by decide) ?_
            exact h (0 : Int32) M149 hG142 F150 (by decide) (by decide) p_145 (by omega) (fun z => by exfalso; omega) (fun _ => winl (by omega) (by omega) z_154)
          · skip
            have p_155 := p_146 (by omega)
            have p_156 := p_147 (by omega)
            clear p_146 p_147 p_148
            have z_157 := WQ_e z_132 p_156.1
            have c_158 := CS_u p_145 (a := (M149.2.1 1 9).toInt) (by omega)
            unfold x_C at c_158
            have z_159 := p_156.2
            refine b_ieq_f (pc := 68) rw_105_68 (A := r140.toInt) rfl (by omega) ?_
            refine to_an (pc := 71) rw_105_71 rfl ?_
            refine to_c (pc := 72) rw_105_72 (x := (41 : Int32)) rfl rfl ?_
            refine s_v (pc := 74) rw_105_74 (by omega) (ls0 := [.ref 1, .int (41 : Int32)]) rfl (Nat.le_of_ble_eq_true rfl) (Nat.le_of_ble_eq_true rfl) rfl (to_rc rfl rfl rfl (g_o hG142 rfl)) rfl ?_
            have k_160 : (41 : Int32).toInt = 41 := rfl
            refine E_90s hX (by omega) hG142 p_145 (by omega) (by omega) (c := (41 : Int32)) (t := t) (nn := nn) (a := (M149.2.1 1 9).toInt) (fun r161 M170 hG163 F162 p_164 p_165 p_166 p_167 p_168 p_169 => ?_)
            have F171 := FR.c F150 F162 tg_167
            rcases (show r161.toInt = 0 ∨ r161.toInt = 1 by omega) with h172 | h172
            · skip
              have p_173 := p_168 (by omega)
              have p_174 := p_169 (by omega)
              clear p_167 p_168 p_169
              have z_175 := WC_x z_157 (by omega) (by omega) (by omega) (by omega)
              refine b_ieq_t (pc := 77) rw_105_77 (A := r161.toInt) rfl (by omega) ?_
              refine to_c (pc := 84) rw_105_84 (x := (0 : Int32)) rfl rfl ?_
              refine s_r1 (pc := 85) rw_105_85 (A := 0) rfl (by decide) ?_
              have c_176 : M170.2.1 28 7 = (M149.2.1 28 7) := (F_n F162 (show ¬ (28 = 1 ∧ 6 ≤ 7 ∧ 7 ≤ 11) by decide) rfl)
              have t_177 : (M170.2.1 28 7).toInt = (M149.2.1 28 7).toInt := congrArg Int32.toInt c_176
              exact h (0 : Int32) M170 hG163 F171 (by decide) (by decide) p_166 (by omega) (fun z => by exfalso; omega) (fun _ => winl (by omega) (by omega) z_175)
            · skip
              have p_178 := p_167 (by omega)
              clear p_167 p_168 p_169
              refine b_ieq_f (pc := 77) rw_105_77 (A := r161.toInt) rfl (by omega) ?_
              refine to_c (pc := 80) rw_105_80 (x := (1 : Int32)) rfl rfl ?_
              refine to_go (pc := 81) rw_105_81 ?_
              refine s_r1 (pc := 85) rw_105_85 (A := 1) rfl (by decide) ?_
              have k_179 : (1 : Int32).toInt = 1 := rfl
              have c_180 : M170.2.1 28 7 = (M149.2.1 28 7) := (F_n F162 (show ¬ (28 = 1 ∧ 6 ≤ 7 ∧ 7 ≤ 11) by decide) rfl)
              have t_181 : (M170.2.1 28 7).toInt = (M149.2.1 28 7).toInt := congrArg Int32.toInt c_180
              exact h (1 : Int32) M170 hG163 F171 (by decide) (by decide) p_166 (by omega) (fun _ => WA_i (tm := x_val t nn a) (by omega) (by omega) (by omega) (by omega) (WQ_o (by omega) z_157) (by omega) (by omega) (by omega) (fun a i z => (F_n F162 (show ¬ (a = 1 ∧ 6 ≤ i ∧ i ≤ 11) by omega) rfl)) (fun i => (F_nl F162 (show ¬ (33 = 1 ∧ 6 ≤ i ∧ i ≤ 11) by omega) rfl)) (by omega)) (fun z => by exfalso; omega)
      · refine to_an (pc := 42) rw_105_42 rfl ?_
        refine to_c (pc := 43) rw_105_43 (x := (2 : Int32)) rfl rfl ?_
        refine s_v (pc := 44) rw_105_44 (by omega) (ls0 := [.ref 1, .int (2 : Int32)]) rfl (Nat.le_of_ble_eq_true rfl) (Nat.le_of_ble_eq_true rfl) rfl (to_rc rfl rfl rfl (g_o hG35 rfl)) rfl ?_
        refine to_an (pc := 0) rw_84_0 rfl ?_
        refine to_in (pc := 1) rw_84_1 rfl ?_
        refine s_pI (pc := 2) rw_84_2 hG35 rfl (fun M183 W182 => ?_)
        have hG184 := g_wf hG35 W182 rfl rfl (by decide)
        have F185 := FR.w F39 W182 (show 1 = 1 ∧ 6 ≤ 10 ∧ 10 ≤ 11 ∨ 28 ≤ 1 ∧ 1 ≤ 35 by decide)
        refine to_an (pc := 5) rw_84_5 rfl ?_
        refine to_an (pc := 6) rw_84_6 rfl ?_
        have c_186 : M183.2.1 1 9 = (M38.2.1 1 9) := (W_n W182 (by decide) rfl)
        refine tt_gI (pc := 7) rw_84_7 (g_o hG184 rfl) (v := (M38.2.1 1 9)) c_186 ?_
        refine s_pI (pc := 10) rw_84_10 hG184 rfl (fun M188 W187 => ?_)
        have hG189 := g_wf hG184 W187 rfl rfl (by decide)
        have F190 := FR.w F185 W187 (show 1 = 1 ∧ 6 ≤ 11 ∧ 11 ≤ 11 ∨ 28 ≤ 1 ∧ 1 ≤ 35 by decide)
        refine to_c (pc := 13) rw_84_13 (x := (0 : Int32)) rfl rfl ?_
        refine s_r1 (pc := 14) rw_84_14 (A := 0) rfl (by decide) ?_
        refine s_r1 (pc := 47) rw_105_47 (A := 0) rfl (by decide) ?_
        have j_191 := (CS_f (fun a i z => W_n W187 (tg_32 a i z) rfl) (CS_f (fun a i z => W_n W182 (tg_33 a i z) rfl) p_36))
        have c_192 : M188.2.1 28 7 = (M.2.1 28 7) := (W_n W187 (by decide) (W_n W182 (by decide) (F_n F34 (show ¬ (28 = 1 ∧ 6 ≤ 7 ∧ 7 ≤ 9) by decide) (W_n W26 (fun z => absurd z.1 (by decide)) (F_n F5 (show ¬ (28 = 1 ∧ (7 = 10 ∨ 7 = 11)) by decide) rfl)))))
        have t_193 : (M188.2.1 28 7).toInt = (M.2.1 28 7).toInt := congrArg Int32.toInt c_192
        have c_194 : M188.2.1 1 10 = (2 : Int32) := (W_n W187 (by decide) (W_e W182))
        have k_195 : (2 : Int32).toInt = 2 := rfl
        have t_196 : (M188.2.1 1 10).toInt = (2 : Int32).toInt := congrArg Int32.toInt c_194
        have c_197 : M188.2.1 1 11 = (M38.2.1 1 9) := (W_e W187)
        have t_198 : (M188.2.1 1 11).toInt = (M38.2.1 1 9).toInt := congrArg Int32.toInt c_197
        exact h (0 : Int32) M188 hG189 F190 (by decide) (by decide) j_191 (by omega) (fun z => by exfalso; omega) (fun _ => winl (by omega) (by omega) (ag_4 (by omega) (by omega) (by omega) (by omega)))
set_option maxRecDepth 4000 in
set_option maxHeartbeats 0 in
theorem E_100 {X : mm_X} {d : Nat} {M : mm_M} {Q : Option Value → mm_M → Prop} {p : Nat} {o : Int32} {t : Nat → Int} {nn : Int} {a : Int} {sg : x_S} {C9 : Nat → Int64} {n9 : Int} {op : List Int} {A9 : x_A} (hX : g_X X) (hd : 4 + 3 * (5 - o.toInt) ≤ (d : Int)) (hG : g_G M) (hp : p = 49 ∨ p = 58) (q1 : 0 ≤ o.toInt) (q2 : o.toInt ≤ 5) (q3 : CS M t nn) (q4 : (M.2.1 1 9).toInt = a) (q5 : PLs M p sg) (q6 : ∀ w : Nat, (w : Int) < sg.2.2.1 → M.2.2.1 15 w = C9 w) (q7 : nn ≤ 500) (q8 : 0 ≤ n9) (q9 : WKc (x_DD t nn sg C9) M A9 n9 op) (q10 : (op.length : Int) = o.toInt) (q11 : ∀ m ∈ op, m < n9) (q12 : (M.2.1 28 7).toInt = n9) (q13 : x_kind t nn a = 1) (hr : RE_99 (5 - o.toInt)) (h : ∀ (r : Int32) (M1 : mm_M), g_G M1 → FR md_w100 M M1 → (0 ≤ r.toInt) → (r.toInt ≤ 1) → CS M1 t nn → (r.toInt = 1 → n9 < (M1.2.1 28 7).toInt) → ((r.toInt = 1 → WQ (x_DD t nn sg C9) t nn sg (x_ww t nn sg 0 n9 op A9 a) M1 A9 n9 op o.toInt)) → ((r.toInt = 0 → x_ww t nn sg 0 n9 op A9 a = Sum.inl ((M1.2.1 1 10).toInt, (M1.2.1 1 11).toInt))) → Q (some (.int r)) M1) : mm_T X d 100 0 [.ref 28, .ref 1, .ref p, .ref 11, .int o, .null, .null, .null] [] M Q := by
  have F0 : FR md_w100 M M := FR.rf
  have b_1 := g_b hG (a := 28) (i := 7) (lo := 0) (hi := 40) rfl rfl
  have c_2 := CS_u q3 (a := a) (by omega)
  unfold x_C at c_2
  have z_3 := c_2.2
  have z_4 : (M.2.1 1 8).toInt = x_val t nn a := by omega
  clear c_2
  refine to_an (pc := 0) rw_100_0 rfl ?_
  refine tt_gI (pc := 1) rw_100_1 (g_o hG rfl) (v := (M.2.1 1 8)) rfl ?_
  refine to_is (pc := 4) rw_100_4 (ls2 := [.ref 28, .ref 1, .ref p, .ref 11, .int o, .int (M.2.1 1 8), .null, .null]) rfl rfl ?_
  refine to_i (pc := 6) rw_100_6 rfl ?_
  refine to_c (pc := 8) rw_100_8 (x := (538561536 : Int32)) rfl rfl ?_
  refine b_ceq (pc := 10) rw_100_10 (A := (M.2.1 1 8).toInt) (B := 538561536) rfl rfl (fun h5 => ?_) (fun h5 => ?_)
  · have z_6 : x_kx (x_val t nn a) = 7 := (x_kx_w2 (x_val t nn a)).1.mpr (by omega)
    refine to_an (pc := 33) rw_100_33 rfl ?_
    refine tt_gI (pc := 34) rw_100_34 (g_o hG rfl) (v := (M.2.1 28 7)) rfl ?_
    refine to_c (pc := 37) rw_100_37 (x := (40 : Int32)) rfl rfl ?_
    refine b_clt (pc := 39) rw_100_39 (A := (M.2.1 28 7).toInt) (B := 40) rfl rfl (fun h7 => ?_) (fun h7 => ?_)
    · refine to_an (pc := 48) rw_100_48 rfl ?_
      refine tt_gI (pc := 49) rw_100_49 (g_o hG rfl) (v := (M.2.1 28 7)) rfl ?_
      refine to_is (pc := 52) rw_100_52 (ls2 := [.ref 28, .ref 1, .ref p, .ref 11, .int o, .int (M.2.1 1 8), .int (M.2.1 28 7), .null]) rfl rfl ?_
      refine to_an (pc := 54) rw_100_54 rfl ?_
      refine to_dupr (pc := 55) rw_100_55 ?_
      refine tt_gI (pc := 56) rw_100_56 (g_o hG rfl) (v := (M.2.1 28 7)) rfl ?_
      refine to_c (pc := 59) rw_100_59 (x := (1 : Int32)) rfl rfl ?_
      refine s_add (pc := 60) rw_100_60 (A := (M.2.1 28 7).toInt) (B := 1) rfl rfl (by omega) (fun v8 e9 => ?_)
      refine s_pI (pc := 61) rw_100_61 hG rfl (fun M11 W10 => ?_)
      have hG12 := g_w hG W10 (A := v8.toInt) rfl (lo := 0) (hi := 40) rfl rfl (by omega) (by decide)
      have F13 := FR.w F0 W10 (show 28 = 1 ∧ 6 ≤ 7 ∧ 7 ≤ 11 ∨ 28 ≤ 28 ∧ 28 ≤ 35 by decide)
      refine to_an (pc := 64) rw_100_64 rfl ?_
      refine s_gR (pc := 65) rw_100_65 hG12 rfl (v := 29) rfl ?_
      refine to_i (pc := 68) rw_100_68 rfl ?_
      refine to_i (pc := 70) rw_100_70 rfl ?_
      refine s_ias (pc := 72) rw_100_72 hG12 rfl (n := 40) rfl (A := (M.2.1 28 7).toInt) rfl (by omega) (by omega) (fun M15 W14 => ?_)
      have hG16 := g_wf hG12 W14 rfl rfl (by decide)
      have F17 := FR.w F13 W14 (show 29 = 1 ∧ 6 ≤ ((M.2.1 28 7).toInt).toNat ∧ ((M.2.1 28 7).toInt).toNat ≤ 11 ∨ 28 ≤ 29 ∧ 29 ≤ 35 by omega)
      have z_18 := WKc_w (WKc_f (fun a i z => (W_n W10 (by /-r28,7-/ omega) rfl)) (fun i => (W_j W10 rfl)) q9) W14 (by omega)
      refine to_an (pc := 73) rw_100_73 rfl ?_
      refine s_v (pc := 74) rw_100_74 (by omega) (ls0 := [.ref 1]) rfl (Nat.le_of_ble_eq_true rfl) (Nat.le_of_ble_eq_true rfl) rfl (to_rc rfl rfl rfl (g_o hG16 rfl)) rfl ?_
      have j_19 := (CS_f (fun a i z => W_n W14 (tg_171 a i _ z) rfl) (CS_f (fun a i z => W_n W10 (tg_172 a i z) rfl) q3))
      have c_20 : M15.2.1 1 9 = (M.2.1 1 9) := (W_n W14 (fun z => absurd z.1 (by decide)) (W_n W10 (by decide) rfl))
      have t_21 : (M15.2.1 1 9).toInt = (M.2.1 1 9).toInt := congrArg Int32.toInt c_20
      refine E_83 hX (by omega) hG16 j_19 (by omega) (t := t) (nn := nn) (a := a) (fun M26 hG23 F22 p_24 p_25 => ?_)
      have F27 := FR.c F17 F22 tg_166
      refine to_i (pc := 77) rw_100_77 rfl ?_
      refine to_c (pc := 79) rw_100_79 (x := (538561536 : Int32)) rfl rfl ?_
      refine b_cne_f (pc := 81) rw_100_81 (A := (M.2.1 1 8).toInt) (B := 538561536) rfl rfl (by omega) ?_
      refine to_an (pc := 84) rw_100_84 rfl ?_
      refine to_an (pc := 85) rw_100_85 rfl ?_
      refine to_an (pc := 86) rw_100_86 rfl ?_
      refine to_an (pc := 87) rw_100_87 rfl ?_
      refine to_i (pc := 88) rw_100_88 rfl ?_
      refine s_v (pc := 90) rw_100_90 (by omega) (ls0 := [.ref 28, .ref 1, .ref p, .ref 11, .int (M.2.1 28 7), .null]) rfl (Nat.le_of_ble_eq_true rfl) (Nat.le_of_ble_eq_true rfl) rfl (to_rc rfl rfl rfl (g_o hG23 rfl)) rfl ?_
      have j_28 := (PLs_f (fun a i z => F_n F22 (show ¬ (a = 1 ∧ 6 ≤ i ∧ i ≤ 9) by omega) rfl) (PLs_f (fun a i z => W_n W14 (by /-r29-/ omega) rfl) (PLs_f (fun a i z => W_n W10 (by /-r28,7-/ omega) rfl) q5)))
      refine E_101 hX (by omega) hG23 hp (by omega) (by omega) p_24 (by omega) j_28 (fun w hw => by rw [show M26.2.2.1 15 w = M.2.2.1 15 w from (F_nl F22 (show ¬ (15 = 1 ∧ 6 ≤ w ∧ w ≤ 9) by omega) (W_j W14 (W_j W10 rfl)))]; exact q6 w hw) (by omega) (p := p) (s := (M.2.1 28 7)) (t := t) (nn := nn) (a := (x_ns t nn a)) (sg := sg) (C9 := C9) (n9 := (n9 + 1)) (op := op) (A9 := (x_k1 A9 n9 0 a)) (fun r29 M42 hG31 F30 p_32 p_33 p_34 p_35 p_36 p_37 p_38 p_39 p_40 p_41 => ?_)
      have F43 := FR.c F27 F30 tg_169
      rcases (show r29.toInt = 0 ∨ r29.toInt = 1 by omega) with h44 | h44
      · skip
        have p_45 := p_41 (by omega)
        clear p_35 p_40 p_41
        have z_46 := (w_ps (by omega) (by omega) (by omega) (by omega) (by omega)).trans p_45
        refine to_is (pc := 93) rw_100_93 (ls2 := [.ref 28, .ref 1, .ref p, .ref 11, .int o, .int (M.2.1 1 8), .int (M.2.1 28 7), .int r29]) rfl rfl ?_
        refine to_go (pc := 95) rw_100_95 ?_
        refine to_an (pc := 130) rw_100_130 rfl ?_
        refine s_gR (pc := 131) rw_100_131 hG31 rfl (v := 35) rfl ?_
        refine to_i (pc := 134) rw_100_134 rfl ?_
        refine to_an (pc := 136) rw_100_136 rfl ?_
        have c_47 : M42.2.1 28 7 = v8 := (F_n F30 (show ¬ (28 = 1 ∧ 6 ≤ 7 ∧ 7 ≤ 11 ∨ 30 ≤ 28 ∧ 28 ≤ 33) by decide) (F_n F22 (show ¬ (28 = 1 ∧ 6 ≤ 7 ∧ 7 ≤ 9) by decide) (W_n W14 (fun z => absurd z.1 (by decide)) (W_e W10))))
        refine tt_gI (pc := 137) rw_100_137 (g_o hG31 rfl) (v := v8) c_47 ?_
        refine s_ias (pc := 140) rw_100_140 hG31 rfl (n := 40) rfl (A := (M.2.1 28 7).toInt) rfl (by omega) (by omega) (fun M49 W48 => ?_)
        have hG50 := g_w hG31 W48 (A := v8.toInt) rfl (lo := 0) (hi := 40) rfl rfl (by omega) (by decide)
        have F51 := FR.w F43 W48 (show 35 = 1 ∧ 6 ≤ ((M.2.1 28 7).toInt).toNat ∧ ((M.2.1 28 7).toInt).toNat ≤ 11 ∨ 28 ≤ 35 ∧ 35 ≤ 35 by omega)
        refine to_i (pc := 141) rw_100_141 rfl ?_
        refine s_r1 (pc := 143) rw_100_143 (A := r29.toInt) rfl (by omega) ?_
        have j_52 := (CS_f (fun a i z => W_n W48 (tg_173 a i _ z) rfl) p_34)
        have c_53 : M49.2.1 28 7 = v8 := (W_n W48 (fun z => absurd z.1 (by decide)) c_47)
        have t_54 : (M49.2.1 28 7).toInt = v8.toInt := congrArg Int32.toInt c_53
        have c_55 : M49.2.1 1 10 = (M42.2.1 1 10) := (W_n W48 (fun z => absurd z.1 (by decide)) rfl)
        have t_56 : (M49.2.1 1 10).toInt = (M42.2.1 1 10).toInt := congrArg Int32.toInt c_55
        have c_57 : M49.2.1 1 11 = (M42.2.1 1 11) := (W_n W48 (fun z => absurd z.1 (by decide)) rfl)
        have t_58 : (M49.2.1 1 11).toInt = (M42.2.1 1 11).toInt := congrArg Int32.toInt c_57
        exact h r29 M49 hG50 F51 (by omega) (by omega) j_52 (by omega) (fun z => by exfalso; omega) (fun _ => winl (by omega) (by omega) z_46)
      · skip
        have p_59 := p_35 (by omega)
        have p_60 := p_40 (by omega)
        clear p_35 p_40 p_41
        have z_61 := (w_ps (by omega) (by omega) (by omega) (by omega) (by omega)).trans p_60
        refine to_is (pc := 93) rw_100_93 (ls2 := [.ref 28, .ref 1, .ref p, .ref 11, .int o, .int (M.2.1 1 8), .int (M.2.1 28 7), .int r29]) rfl rfl ?_
        refine to_go (pc := 95) rw_100_95 ?_
        refine to_an (pc := 130) rw_100_130 rfl ?_
        refine s_gR (pc := 131) rw_100_131 hG31 rfl (v := 35) rfl ?_
        refine to_i (pc := 134) rw_100_134 rfl ?_
        refine to_an (pc := 136) rw_100_136 rfl ?_
        have c_62 : M42.2.1 28 7 = v8 := (F_n F30 (show ¬ (28 = 1 ∧ 6 ≤ 7 ∧ 7 ≤ 11 ∨ 30 ≤ 28 ∧ 28 ≤ 33) by decide) (F_n F22 (show ¬ (28 = 1 ∧ 6 ≤ 7 ∧ 7 ≤ 9) by decide) (W_n W14 (fun z => absurd z.1 (by decide)) (W_e W10))))
        refine tt_gI (pc := 137) rw_100_137 (g_o hG31 rfl) (v := v8) c_62 ?_
        refine s_ias (pc := 140) rw_100_140 hG31 rfl (n := 40) rfl (A := (M.2.1 28 7).toInt) rfl (by omega) (by omega) (fun M64 W63 => ?_)
        have hG65 := g_w hG31 W63 (A := v8.toInt) rfl (lo := 0) (hi := 40) rfl rfl (by omega) (by decide)
        have F66 := FR.w F43 W63 (show 35 = 1 ∧ 6 ≤ ((M.2.1 28 7).toInt).toNat ∧ ((M.2.1 28 7).toInt).toNat ≤ 11 ∨ 28 ≤ 35 ∧ 35 ≤ 35 by omega)
        refine to_i (pc := 141) rw_100_141 rfl ?_
        refine s_r1 (pc := 143) rw_100_143 (A := r29.toInt) rfl (by omega) ?_
        have j_67 := (CS_f (fun a i z => W_n W63 (tg_173 a i _ z) rfl) p_34)
        have c_68 : M64.2.1 28 7 = v8 := (W_n W63 (fun z => absurd z.1 (by decide)) c_62)
        have t_69 : (M64.2.1 28 7).toInt = v8.toInt := congrArg Int32.toInt c_68
        have t_70 : (M42.2.1 28 7).toInt = v8.toInt := congrArg Int32.toInt c_62
        exact h r29 M64 hG65 F66 (by omega) (by omega) j_67 (by omega) (fun _ => WQ_p (k := 0) (by decide) (by omega) (WKc_o (fun a i z => (F_n F30 (show ¬ (a = 1 ∧ 6 ≤ i ∧ i ≤ 11 ∨ 30 ≤ a ∧ a ≤ 33) by omega) (F_n F22 (show ¬ (a = 1 ∧ 6 ≤ i ∧ i ≤ 9) by omega) rfl))) (fun r i hr hi => by rcases (show r = 30 ∨ r = 31 ∨ r = 32 by omega) with rfl | rfl | rfl; exact (rfl).trans ((p_36 i (by omega)).trans ((F_n F22 (show ¬ (30 = 1 ∧ 6 ≤ i ∧ i ≤ 9) by omega) rfl))); exact (rfl).trans ((p_37 i (by omega)).trans ((F_n F22 (show ¬ (31 = 1 ∧ 6 ≤ i ∧ i ≤ 9) by omega) rfl))); exact (rfl).trans ((p_38 i (by omega)).trans ((F_n F22 (show ¬ (32 = 1 ∧ 6 ≤ i ∧ i ≤ 9) by omega) rfl)))) (fun i hi => (rfl).trans ((p_39 i (by omega)).trans ((F_nl F22 (show ¬ (33 = 1 ∧ 6 ≤ i ∧ i ≤ 9) by omega) rfl)))) z_18) q11 (by rw [show n9.toNat = ((M.2.1 28 7).toInt).toNat by omega, show M42.2.1 29 ((M.2.1 28 7).toInt).toNat = (M.2.1 1 8) from (F_n F30 (show ¬ (29 = 1 ∧ 6 ≤ ((M.2.1 28 7).toInt).toNat ∧ ((M.2.1 28 7).toInt).toNat ≤ 11 ∨ 30 ≤ 29 ∧ 29 ≤ 33) by omega) (F_n F22 (show ¬ (29 = 1 ∧ 6 ≤ ((M.2.1 28 7).toInt).toNat ∧ ((M.2.1 28 7).toInt).toNat ≤ 9) by omega) (W_e W14)))]; exact (show (M.2.1 1 8).toInt = 538561536 by omega)) (PD_0 (by omega) (by rw [show n9.toNat = ((M.2.1 28 7).toInt).toNat by omega]; exact p_59)) (by omega) (W9_i (by omega) W63) (by omega) z_61) (fun z => by exfalso; omega)
    · refine to_an (pc := 42) rw_100_42 rfl ?_
      refine to_c (pc := 43) rw_100_43 (x := (2 : Int32)) rfl rfl ?_
      refine s_v (pc := 44) rw_100_44 (by omega) (ls0 := [.ref 1, .int (2 : Int32)]) rfl (Nat.le_of_ble_eq_true rfl) (Nat.le_of_ble_eq_true rfl) rfl (to_rc rfl rfl rfl (g_o hG rfl)) rfl ?_
      refine to_an (pc := 0) rw_84_0 rfl ?_
      refine to_in (pc := 1) rw_84_1 rfl ?_
      refine s_pI (pc := 2) rw_84_2 hG rfl (fun M72 W71 => ?_)
      have hG73 := g_wf hG W71 rfl rfl (by decide)
      have F74 := FR.w F0 W71 (show 1 = 1 ∧ 6 ≤ 10 ∧ 10 ≤ 11 ∨ 28 ≤ 1 ∧ 1 ≤ 35 by decide)
      refine to_an (pc := 5) rw_84_5 rfl ?_
      refine to_an (pc := 6) rw_84_6 rfl ?_
      have c_75 : M72.2.1 1 9 = (M.2.1 1 9) := (W_n W71 (by decide) rfl)
      refine tt_gI (pc := 7) rw_84_7 (g_o hG73 rfl) (v := (M.2.1 1 9)) c_75 ?_
      refine s_pI (pc := 10) rw_84_10 hG73 rfl (fun M77 W76 => ?_)
      have hG78 := g_wf hG73 W76 rfl rfl (by decide)
      have F79 := FR.w F74 W76 (show 1 = 1 ∧ 6 ≤ 11 ∧ 11 ≤ 11 ∨ 28 ≤ 1 ∧ 1 ≤ 35 by decide)
      refine to_c (pc := 13) rw_84_13 (x := (0 : Int32)) rfl rfl ?_
      refine s_r1 (pc := 14) rw_84_14 (A := 0) rfl (by decide) ?_
      refine s_r1 (pc := 47) rw_100_47 (A := 0) rfl (by decide) ?_
      have k_80 : (0 : Int32).toInt = 0 := rfl
      have j_81 := (CS_f (fun a i z => W_n W76 (tg_32 a i z) rfl) (CS_f (fun a i z => W_n W71 (tg_33 a i z) rfl) q3))
      have c_82 : M77.2.1 28 7 = (M.2.1 28 7) := (W_n W76 (by decide) (W_n W71 (by decide) rfl))
      have t_83 : (M77.2.1 28 7).toInt = (M.2.1 28 7).toInt := congrArg Int32.toInt c_82
      have c_84 : M77.2.1 1 10 = (2 : Int32) := (W_n W76 (by decide) (W_e W71))
      have k_85 : (2 : Int32).toInt = 2 := rfl
      have t_86 : (M77.2.1 1 10).toInt = (2 : Int32).toInt := congrArg Int32.toInt c_84
      have c_87 : M77.2.1 1 11 = (M.2.1 1 9) := (W_e W76)
      have t_88 : (M77.2.1 1 11).toInt = (M.2.1 1 9).toInt := congrArg Int32.toInt c_87
      exact h (0 : Int32) M77 hG78 F79 (by decide) (by decide) j_81 (by omega) (fun z => by exfalso; omega) (fun _ => winl (by omega) (by omega) (w_40 (by omega) (by omega) (by omega) (by omega) (by omega)))
  · refine to_i (pc := 13) rw_100_13 rfl ?_
    refine to_c (pc := 15) rw_100_15 (x := (351582208 : Int32)) rfl rfl ?_
    refine b_ceq (pc := 17) rw_100_17 (A := (M.2.1 1 8).toInt) (B := 351582208) rfl rfl (fun h89 => ?_) (fun h89 => ?_)
    · have z_90 : x_kx (x_val t nn a) = 10 := (x_kx_w2 (x_val t nn a)).2.2.2.1.mpr (by omega)
      refine to_an (pc := 33) rw_100_33 rfl ?_
      refine tt_gI (pc := 34) rw_100_34 (g_o hG rfl) (v := (M.2.1 28 7)) rfl ?_
      refine to_c (pc := 37) rw_100_37 (x := (40 : Int32)) rfl rfl ?_
      refine b_clt (pc := 39) rw_100_39 (A := (M.2.1 28 7).toInt) (B := 40) rfl rfl (fun h91 => ?_) (fun h91 => ?_)
      · refine to_an (pc := 48) rw_100_48 rfl ?_
        refine tt_gI (pc := 49) rw_100_49 (g_o hG rfl) (v := (M.2.1 28 7)) rfl ?_
        refine to_is (pc := 52) rw_100_52 (ls2 := [.ref 28, .ref 1, .ref p, .ref 11, .int o, .int (M.2.1 1 8), .int (M.2.1 28 7), .null]) rfl rfl ?_
        refine to_an (pc := 54) rw_100_54 rfl ?_
        refine to_dupr (pc := 55) rw_100_55 ?_
        refine tt_gI (pc := 56) rw_100_56 (g_o hG rfl) (v := (M.2.1 28 7)) rfl ?_
        refine to_c (pc := 59) rw_100_59 (x := (1 : Int32)) rfl rfl ?_
        refine s_add (pc := 60) rw_100_60 (A := (M.2.1 28 7).toInt) (B := 1) rfl rfl (by omega) (fun v92 e93 => ?_)
        refine s_pI (pc := 61) rw_100_61 hG rfl (fun M95 W94 => ?_)
        have hG96 := g_w hG W94 (A := v92.toInt) rfl (lo := 0) (hi := 40) rfl rfl (by omega) (by decide)
        have F97 := FR.w F0 W94 (show 28 = 1 ∧ 6 ≤ 7 ∧ 7 ≤ 11 ∨ 28 ≤ 28 ∧ 28 ≤ 35 by decide)
        refine to_an (pc := 64) rw_100_64 rfl ?_
        refine s_gR (pc := 65) rw_100_65 hG96 rfl (v := 29) rfl ?_
        refine to_i (pc := 68) rw_100_68 rfl ?_
        refine to_i (pc := 70) rw_100_70 rfl ?_
        refine s_ias (pc := 72) rw_100_72 hG96 rfl (n := 40) rfl (A := (M.2.1 28 7).toInt) rfl (by omega) (by omega) (fun M99 W98 => ?_)
        have hG100 := g_wf hG96 W98 rfl rfl (by decide)
        have F101 := FR.w F97 W98 (show 29 = 1 ∧ 6 ≤ ((M.2.1 28 7).toInt).toNat ∧ ((M.2.1 28 7).toInt).toNat ≤ 11 ∨ 28 ≤ 29 ∧ 29 ≤ 35 by omega)
        have z_102 := WKc_w (WKc_f (fun a i z => (W_n W94 (by /-r28,7-/ omega) rfl)) (fun i => (W_j W94 rfl)) q9) W98 (by omega)
        refine to_an (pc := 73) rw_100_73 rfl ?_
        refine s_v (pc := 74) rw_100_74 (by omega) (ls0 := [.ref 1]) rfl (Nat.le_of_ble_eq_true rfl) (Nat.le_of_ble_eq_true rfl) rfl (to_rc rfl rfl rfl (g_o hG100 rfl)) rfl ?_
        have j_103 := (CS_f (fun a i z => W_n W98 (tg_171 a i _ z) rfl) (CS_f (fun a i z => W_n W94 (tg_172 a i z) rfl) q3))
        have c_104 : M99.2.1 1 9 = (M.2.1 1 9) := (W_n W98 (fun z => absurd z.1 (by decide)) (W_n W94 (by decide) rfl))
        have t_105 : (M99.2.1 1 9).toInt = (M.2.1 1 9).toInt := congrArg Int32.toInt c_104
        refine E_83 hX (by omega) hG100 j_103 (by omega) (t := t) (nn := nn) (a := a) (fun M110 hG107 F106 p_108 p_109 => ?_)
        have F111 := FR.c F101 F106 tg_166
        refine to_i (pc := 77) rw_100_77 rfl ?_
        refine to_c (pc := 79) rw_100_79 (x := (538561536 : Int32)) rfl rfl ?_
        refine b_cne_t (pc := 81) rw_100_81 (A := (M.2.1 1 8).toInt) (B := 538561536) rfl rfl (by omega) ?_
        refine to_i (pc := 98) rw_100_98 rfl ?_
        refine to_c (pc := 100) rw_100_100 (x := (351582208 : Int32)) rfl rfl ?_
        refine b_cne_f (pc := 102) rw_100_102 (A := (M.2.1 1 8).toInt) (B := 351582208) rfl rfl (by omega) ?_
        refine to_an (pc := 105) rw_100_105 rfl ?_
        refine to_an (pc := 106) rw_100_106 rfl ?_
        refine to_i (pc := 107) rw_100_107 rfl ?_
        refine s_v (pc := 109) rw_100_109 (by omega) (ls0 := [.ref 28, .ref 1, .int (M.2.1 28 7), .null]) rfl (Nat.le_of_ble_eq_true rfl) (Nat.le_of_ble_eq_true rfl) rfl (to_rc rfl rfl rfl (g_o hG107 rfl)) rfl ?_
        refine E_104 hX (by omega) hG107 (by omega) (by omega) p_108 (by omega) (s := (M.2.1 28 7)) (t := t) (nn := nn) (a := (x_ns t nn a)) (fun r112 M125 hG114 F113 p_115 p_116 p_117 p_118 p_119 p_120 p_121 p_122 p_123 p_124 => ?_)
        have F126 := FR.c F111 F113 tg_169
        rcases (show r112.toInt = 0 ∨ r112.toInt = 1 by omega) with h127 | h127
        · skip
          have p_128 := p_124 (by omega)
          clear p_118 p_123 p_124
          have z_129 := (w_jn (by omega) (by omega) (by omega) (by omega) (by omega)).trans (p_128 (x_ww t nn sg 0 (n9 + 1) op (x_k1 A9 n9 1 a)))
          refine to_is (pc := 112) rw_100_112 (ls2 := [.ref 28, .ref 1, .ref p, .ref 11, .int o, .int (M.2.1 1 8), .int (M.2.1 28 7), .int r112]) rfl rfl ?_
          refine to_go (pc := 114) rw_100_114 ?_
          refine to_an (pc := 130) rw_100_130 rfl ?_
          refine s_gR (pc := 131) rw_100_131 hG114 rfl (v := 35) rfl ?_
          refine to_i (pc := 134) rw_100_134 rfl ?_
          refine to_an (pc := 136) rw_100_136 rfl ?_
          have c_130 : M125.2.1 28 7 = v92 := (F_n F113 (show ¬ (28 = 1 ∧ 6 ≤ 7 ∧ 7 ≤ 11 ∨ 30 ≤ 28 ∧ 28 ≤ 33) by decide) (F_n F106 (show ¬ (28 = 1 ∧ 6 ≤ 7 ∧ 7 ≤ 9) by decide) (W_n W98 (fun z => absurd z.1 (by decide)) (W_e W94))))
          refine tt_gI (pc := 137) rw_100_137 (g_o hG114 rfl) (v := v92) c_130 ?_
          refine s_ias (pc := 140) rw_100_140 hG114 rfl (n := 40) rfl (A := (M.2.1 28 7).toInt) rfl (by omega) (by omega) (fun M132 W131 => ?_)
          have hG133 := g_w hG114 W131 (A := v92.toInt) rfl (lo := 0) (hi := 40) rfl rfl (by omega) (by decide)
          have F134 := FR.w F126 W131 (show 35 = 1 ∧ 6 ≤ ((M.2.1 28 7).toInt).toNat ∧ ((M.2.1 28 7).toInt).toNat ≤ 11 ∨ 28 ≤ 35 ∧ 35 ≤ 35 by omega)
          refine to_i (pc := 141) rw_100_141 rfl ?_
          refine s_r1 (pc := 143) rw_100_143 (A := r112.toInt) rfl (by omega) ?_
          have j_135 := (CS_f (fun a i z => W_n W131 (tg_173 a i _ z) rfl) p_117)
          have c_136 : M132.2.1 28 7 = v92 := (W_n W131 (fun z => absurd z.1 (by decide)) c_130)
          have t_137 : (M132.2.1 28 7).toInt = v92.toInt := congrArg Int32.toInt c_136
          have c_138 : M132.2.1 1 10 = (M125.2.1 1 10) := (W_n W131 (fun z => absurd z.1 (by decide)) rfl)
          have t_139 : (M132.2.1 1 10).toInt = (M125.2.1 1 10).toInt := congrArg Int32.toInt c_138
          have c_140 : M132.2.1 1 11 = (M125.2.1 1 11) := (W_n W131 (fun z => absurd z.1 (by decide)) rfl)
          have t_141 : (M132.2.1 1 11).toInt = (M125.2.1 1 11).toInt := congrArg Int32.toInt c_140
          exact h r112 M132 hG133 F134 (by omega) (by omega) j_135 (by omega) (fun z => by exfalso; omega) (fun _ => winl (by omega) (by omega) z_129)
        · skip
          have p_142 := p_118 (by omega)
          have p_143 := p_123 (by omega)
          clear p_118 p_123 p_124
          have z_144 := (w_jn (by omega) (by omega) (by omega) (by omega) (by omega)).trans (p_143 (x_ww t nn sg 0 (n9 + 1) op (x_k1 A9 n9 1 a)))
          refine to_is (pc := 112) rw_100_112 (ls2 := [.ref 28, .ref 1, .ref p, .ref 11, .int o, .int (M.2.1 1 8), .int (M.2.1 28 7), .int r112]) rfl rfl ?_
          refine to_go (pc := 114) rw_100_114 ?_
          refine to_an (pc := 130) rw_100_130 rfl ?_
          refine s_gR (pc := 131) rw_100_131 hG114 rfl (v := 35) rfl ?_
          refine to_i (pc := 134) rw_100_134 rfl ?_
          refine to_an (pc := 136) rw_100_136 rfl ?_
          have c_145 : M125.2.1 28 7 = v92 := (F_n F113 (show ¬ (28 = 1 ∧ 6 ≤ 7 ∧ 7 ≤ 11 ∨ 30 ≤ 28 ∧ 28 ≤ 33) by decide) (F_n F106 (show ¬ (28 = 1 ∧ 6 ≤ 7 ∧ 7 ≤ 9) by decide) (W_n W98 (fun z => absurd z.1 (by decide)) (W_e W94))))
          refine tt_gI (pc := 137) rw_100_137 (g_o hG114 rfl) (v := v92) c_145 ?_
          refine s_ias (pc := 140) rw_100_140 hG114 rfl (n := 40) rfl (A := (M.2.1 28 7).toInt) rfl (by omega) (by omega) (fun M147 W146 => ?_)
          have hG148 := g_w hG114 W146 (A := v92.toInt) rfl (lo := 0) (hi := 40) rfl rfl (by omega) (by decide)
          have F149 := FR.w F126 W146 (show 35 = 1 ∧ 6 ≤ ((M.2.1 28 7).toInt).toNat ∧ ((M.2.1 28 7).toInt).toNat ≤ 11 ∨ 28 ≤ 35 ∧ 35 ≤ 35 by omega)
          refine to_i (pc := 141) rw_100_141 rfl ?_
          refine s_r1 (pc := 143) rw_100_143 (A := r112.toInt) rfl (by omega) ?_
          have j_150 := (CS_f (fun a i z => W_n W146 (tg_173 a i _ z) rfl) p_117)
          have c_151 : M147.2.1 28 7 = v92 := (W_n W146 (fun z => absurd z.1 (by decide)) c_145)
          have t_152 : (M147.2.1 28 7).toInt = v92.toInt := congrArg Int32.toInt c_151
          have t_153 : (M125.2.1 28 7).toInt = v92.toInt := congrArg Int32.toInt c_145
          exact h r112 M147 hG148 F149 (by omega) (by omega) j_150 (by omega) (fun _ => WQ_p (k := 1) (by decide) (by omega) (WKc_o (fun a i z => (F_n F113 (show ¬ (a = 1 ∧ 6 ≤ i ∧ i ≤ 11 ∨ 30 ≤ a ∧ a ≤ 33) by omega) (F_n F106 (show ¬ (a = 1 ∧ 6 ≤ i ∧ i ≤ 9) by omega) rfl))) (fun r i hr hi => by rcases (show r = 30 ∨ r = 31 ∨ r = 32 by omega) with rfl | rfl | rfl; exact (rfl).trans ((p_119 i (by omega)).trans ((F_n F106 (show ¬ (30 = 1 ∧ 6 ≤ i ∧ i ≤ 9) by omega) rfl))); exact (rfl).trans ((p_120 i (by omega)).trans ((F_n F106 (show ¬ (31 = 1 ∧ 6 ≤ i ∧ i ≤ 9) by omega) rfl))); exact (rfl).trans ((p_121 i (by omega)).trans ((F_n F106 (show ¬ (32 = 1 ∧ 6 ≤ i ∧ i ≤ 9) by omega) rfl)))) (fun i hi => (rfl).trans ((p_122 i (by omega)).trans ((F_nl F106 (show ¬ (33 = 1 ∧ 6 ≤ i ∧ i ≤ 9) by omega) rfl)))) z_102) q11 (by rw [show n9.toNat = ((M.2.1 28 7).toInt).toNat by omega, show M125.2.1 29 ((M.2.1 28 7).toInt).toNat = (M.2.1 1 8) from (F_n F113 (show ¬ (29 = 1 ∧ 6 ≤ ((M.2.1 28 7).toInt).toNat ∧ ((M.2.1 28 7).toInt).toNat ≤ 11 ∨ 30 ≤ 29 ∧ 29 ≤ 33) by omega) (F_n F106 (show ¬ (29 = 1 ∧ 6 ≤ ((M.2.1 28 7).toInt).toNat ∧ ((M.2.1 28 7).toInt).toNat ≤ 9) by omega) (W_e W98)))]; exact (show (M.2.1 1 8).toInt = 351582208 by omega)) (PD_1 (by omega) (by rw [show n9.toNat = ((M.2.1 28 7).toInt).toNat by omega]; exact p_142)) (by omega) (W9_i (by omega) W146) (by omega) z_144) (fun z => by exfalso; omega)
      · refine to_an (pc := 42) rw_100_42 rfl ?_
        refine to_c (pc := 43) rw_100_43 (x := (2 : Int32)) rfl rfl ?_
        refine s_v (pc := 44) rw_100_44 (by omega) (ls0 := [.ref 1, .int (2 : Int32)]) rfl (Nat.le_of_ble_eq_true rfl) (Nat.le_of_ble_eq_true rfl) rfl (to_rc rfl rfl rfl (g_o hG rfl)) rfl ?_
        refine to_an (pc := 0) rw_84_0 rfl ?_
        refine to_in (pc := 1) rw_84_1 rfl ?_
        refine s_pI (pc := 2) rw_84_2 hG rfl (fun M155 W154 => ?_)
        have hG156 := g_wf hG W154 rfl rfl (by decide)
        have F157 := FR.w F0 W154 (show 1 = 1 ∧ 6 ≤ 10 ∧ 10 ≤ 11 ∨ 28 ≤ 1 ∧ 1 ≤ 35 by decide)
        refine to_an (pc := 5) rw_84_5 rfl ?_
        refine to_an (pc := 6) rw_84_6 rfl ?_
        have c_158 : M155.2.1 1 9 = (M.2.1 1 9) := (W_n W154 (by decide) rfl)
        refine tt_gI (pc := 7) rw_84_7 (g_o hG156 rfl) (v := (M.2.1 1 9)) c_158 ?_
        refine s_pI (pc := 10) rw_84_10 hG156 rfl (fun M160 W159 => ?_)
        have hG161 := g_wf hG156 W159 rfl rfl (by decide)
        have F162 := FR.w F157 W159 (show 1 = 1 ∧ 6 ≤ 11 ∧ 11 ≤ 11 ∨ 28 ≤ 1 ∧ 1 ≤ 35 by decide)
        refine to_c (pc := 13) rw_84_13 (x := (0 : Int32)) rfl rfl ?_
        refine s_r1 (pc := 14) rw_84_14 (A := 0) rfl (by decide) ?_
        refine s_r1 (pc := 47) rw_100_47 (A := 0) rfl (by decide) ?_
        have k_163 : (0 : Int32).toInt = 0 := rfl
        have j_164 := (CS_f (fun a i z => W_n W159 (tg_32 a i z) rfl) (CS_f (fun a i z => W_n W154 (tg_33 a i z) rfl) q3))
        have c_165 : M160.2.1 28 7 = (M.2.1 28 7) := (W_n W159 (by decide) (W_n W154 (by decide) rfl))
        have t_166 : (M160.2.1 28 7).toInt = (M.2.1 28 7).toInt := congrArg Int32.toInt c_165
        have c_167 : M160.2.1 1 10 = (2 : Int32) := (W_n W159 (by decide) (W_e W154))
        have k_168 : (2 : Int32).toInt = 2 := rfl
        have t_169 : (M160.2.1 1 10).toInt = (2 : Int32).toInt := congrArg Int32.toInt c_167
        have c_170 : M160.2.1 1 11 = (M.2.1 1 9) := (W_e W159)
        have t_171 : (M160.2.1 1 11).toInt = (M.2.1 1 9).toInt := congrArg Int32.toInt c_170
        exact h (0 : Int32) M160 hG161 F162 (by decide) (by decide) j_164 (by omega) (fun z => by exfalso; omega) (fun _ => winl (by omega) (by omega) (w_40 (by omega) (by omega) (by omega) (by omega) (by omega)))
    · refine to_i (pc := 20) rw_100_20 rfl ?_
      refine to_c (pc := 22) rw_100_22 (x := (40936896 : Int32)) rfl rfl ?_
      refine b_ceq (pc := 24) rw_100_24 (A := (M.2.1 1 8).toInt) (B := 40936896) rfl rfl (fun h172 => ?_) (fun h172 => ?_)
      · have z_173 : x_kx (x_val t nn a) = 11 := (x_kx_w2 (x_val t nn a)).2.2.2.2.mpr (by omega)
        refine to_an (pc := 33) rw_100_33 rfl ?_
        refine tt_gI (pc := 34) rw_100_34 (g_o hG rfl) (v := (M.2.1 28 7)) rfl ?_
        refine to_c (pc := 37) rw_100_37 (x := (40 : Int32)) rfl rfl ?_
        refine b_clt (pc := 39) rw_100_39 (A := (M.2.1 28 7).toInt) (B := 40) rfl rfl (fun h174 => ?_) (fun h174 => ?_)
        · refine to_an (pc := 48) rw_100_48 rfl ?_
          refine tt_gI (pc := 49) rw_100_49 (g_o hG rfl) (v := (M.2.1 28 7)) rfl ?_
          refine to_is (pc := 52) rw_100_52 (ls2 := [.ref 28, .ref 1, .ref p, .ref 11, .int o, .int (M.2.1 1 8), .int (M.2.1 28 7), .null]) rfl rfl ?_
          refine to_an (pc := 54) rw_100_54 rfl ?_
          refine to_dupr (pc := 55) rw_100_55 ?_
          refine tt_gI (pc := 56) rw_100_56 (g_o hG rfl) (v := (M.2.1 28 7)) rfl ?_
          refine to_c (pc := 59) rw_100_59 (x := (1 : Int32)) rfl rfl ?_
          refine s_add (pc := 60) rw_100_60 (A := (M.2.1 28 7).toInt) (B := 1) rfl rfl (by omega) (fun v175 e176 => ?_)
          refine s_pI (pc := 61) rw_100_61 hG rfl (fun M178 W177 => ?_)
          have hG179 := g_w hG W177 (A := v175.toInt) rfl (lo := 0) (hi := 40) rfl rfl (by omega) (by decide)
          have F180 := FR.w F0 W177 (show 28 = 1 ∧ 6 ≤ 7 ∧ 7 ≤ 11 ∨ 28 ≤ 28 ∧ 28 ≤ 35 by decide)
          refine to_an (pc := 64) rw_100_64 rfl ?_
          refine s_gR (pc := 65) rw_100_65 hG179 rfl (v := 29) rfl ?_
          refine to_i (pc := 68) rw_100_68 rfl ?_
          refine to_i (pc := 70) rw_100_70 rfl ?_
          refine s_ias (pc := 72) rw_100_72 hG179 rfl (n := 40) rfl (A := (M.2.1 28 7).toInt) rfl (by omega) (by omega) (fun M182 W181 => ?_)
          have hG183 := g_wf hG179 W181 rfl rfl (by decide)
          have F184 := FR.w F180 W181 (show 29 = 1 ∧ 6 ≤ ((M.2.1 28 7).toInt).toNat ∧ ((M.2.1 28 7).toInt).toNat ≤ 11 ∨ 28 ≤ 29 ∧ 29 ≤ 35 by omega)
          have z_185 := WKc_w (WKc_f (fun a i z => (W_n W177 (by /-r28,7-/ omega) rfl)) (fun i => (W_j W177 rfl)) q9) W181 (by omega)
          refine to_an (pc := 73) rw_100_73 rfl ?_
          refine s_v (pc := 74) rw_100_74 (by omega) (ls0 := [.ref 1]) rfl (Nat.le_of_ble_eq_true rfl) (Nat.le_of_ble_eq_true rfl) rfl (to_rc rfl rfl rfl (g_o hG183 rfl)) rfl ?_
          have j_186 := (CS_f (fun a i z => W_n W181 (tg_171 a i _ z) rfl) (CS_f (fun a i z => W_n W177 (tg_172 a i z) rfl) q3))
          have c_187 : M182.2.1 1 9 = (M.2.1 1 9) := (W_n W181 (fun z => absurd z.1 (by decide)) (W_n W177 (by decide) rfl))
          have t_188 : (M182.2.1 1 9).toInt = (M.2.1 1 9).toInt := congrArg Int32.toInt c_187
          refine E_83 hX (by omega) hG183 j_186 (by omega) (t := t) (nn := nn) (a := a) (fun M193 hG190 F189 p_191 p_192 => ?_)
          have F194 := FR.c F184 F189 tg_166
          refine to_i (pc := 77) rw_100_77 rfl ?_
          refine to_c (pc := 79) rw_100_79 (x := (538561536 : Int32)) rfl rfl ?_
          refine b_cne_t (pc := 81) rw_100_81 (A := (M.2.1 1 8).toInt) (B := 538561536) rfl rfl (by omega) ?_
          refine to_i (pc := 98) rw_100_98 rfl ?_
          refine to_c (pc := 100) rw_100_100 (x := (351582208 : Int32)) rfl rfl ?_
          refine b_cne_t (pc := 102) rw_100_102 (A := (M.2.1 1 8).toInt) (B := 351582208) rfl rfl (by omega) ?_
          refine to_an (pc := 117) rw_100_117 rfl ?_
          refine to_an (pc := 118) rw_100_118 rfl ?_
          refine to_an (pc := 119) rw_100_119 rfl ?_
          refine to_an (pc := 120) rw_100_120 rfl ?_
          refine to_i (pc := 121) rw_100_121 rfl ?_
          refine to_i (pc := 123) rw_100_123 rfl ?_
          refine s_v (pc := 125) rw_100_125 (by omega) (ls0 := [.ref 28, .ref 1, .ref p, .ref 11, .int o, .int (M.2.1 28 7)]) rfl (Nat.le_of_ble_eq_true rfl) (Nat.le_of_ble_eq_true rfl) rfl (to_rc rfl rfl rfl (g_o hG190 rfl)) rfl ?_
          have j_195 := (PLs_f (fun a i z => F_n F189 (show ¬ (a = 1 ∧ 6 ≤ i ∧ i ≤ 9) by omega) rfl) (PLs_f (fun a i z => W_n W181 (by /-r29-/ omega) rfl) (PLs_f (fun a i z => W_n W177 (by /-r28,7-/ omega) rfl) q5)))
          have c_196 : M193.2.1 28 7 = v175 := (F_n F189 (show ¬ (28 = 1 ∧ 6 ≤ 7 ∧ 7 ≤ 9) by decide) (W_n W181 (fun z => absurd z.1 (by decide)) (W_e W177)))
          have t_197 : (M193.2.1 28 7).toInt = v175.toInt := congrArg Int32.toInt c_196
          refine E_105 hX (by omega) hG190 hp (by omega) (by omega) (by omega) (by omega) p_191 (by omega) j_195 (fun w hw => by rw [show M193.2.2.1 15 w = M.2.2.1 15 w from (F_nl F189 (show ¬ (15 = 1 ∧ 6 ≤ w ∧ w ≤ 9) by omega) (W_j W181 (W_j W177 rfl)))]; exact q6 w hw) (by omega) (by omega) (WKc_f (fun a i z => (F_n F189 (show ¬ (a = 1 ∧ 6 ≤ i ∧ i ≤ 9) by omega) rfl)) (fun i => (F_nl F189 (show ¬ (33 = 1 ∧ 6 ≤ i ∧ i ≤ 9) by omega) rfl)) z_185) q10 q11 (by omega) (by omega) (by rw [show n9.toNat = ((M.2.1 28 7).toInt).toNat by omega, show M193.2.1 29 ((M.2.1 28 7).toInt).toNat = (M.2.1 1 8) from (F_n F189 (show ¬ (29 = 1 ∧ 6 ≤ ((M.2.1 28 7).toInt).toNat ∧ ((M.2.1 28 7).toInt).toNat ≤ 9) by omega) (W_e W181))]; exact (show (M.2.1 1 8).toInt = 40936896 by omega)) hr (p := p) (o := o) (s := (M.2.1 28 7)) (t := t) (nn := nn) (a := (x_ns t nn a)) (sg := sg) (C9 := C9) (n9 := n9) (op := op) (A9 := A9) (fun r198 M207 hG200 F199 p_201 p_202 p_203 p_204 p_205 p_206 => ?_)
          have F208 := FR.c F194 F199 tg_168
          have b_209 := g_b hG200 (a := 28) (i := 7) (lo := 0) (hi := 40) rfl rfl
          rcases (show r198.toInt = 0 ∨ r198.toInt = 1 by omega) with h210 | h210
          · skip
            have p_211 := p_206 (by omega)
            clear p_204 p_205 p_206
            have z_212 : x_ww t nn sg 0 n9 op A9 a = x_wag t nn o.toInt (x_ns t nn a) (fun tm => x_ww t nn sg 0 (n9 + 1) (n9 :: op) (x_kt A9 n9 tm)) := (w_ag (by omega) (by omega) (by omega) (by omega) (by omega)).trans (by rw [q10])
            have z_213 := z_212.trans p_211
            refine to_is (pc := 128) rw_100_128 (ls2 := [.ref 28, .ref 1, .ref p, .ref 11, .int o, .int (M.2.1 1 8), .int (M.2.1 28 7), .int r198]) rfl rfl ?_
            refine to_an (pc := 130) rw_100_130 rfl ?_
            refine s_gR (pc := 131) rw_100_131 hG200 rfl (v := 35) rfl ?_
            refine to_i (pc := 134) rw_100_134 rfl ?_
            refine to_an (pc := 136) rw_100_136 rfl ?_
            refine tt_gI (pc := 137) rw_100_137 (g_o hG200 rfl) (v := (M207.2.1 28 7)) rfl ?_
            refine s_ias (pc := 140) rw_100_140 hG200 rfl (n := 40) rfl (A := (M.2.1 28 7).toInt) rfl (by omega) (by omega) (fun M215 W214 => ?_)
            have hG216 := g_w hG200 W214 (A := (M207.2.1 28 7).toInt) rfl (lo := 0) (hi := 40) rfl rfl (by omega) (by decide)
            have F217 := FR.w F208 W214 (show 35 = 1 ∧ 6 ≤ ((M.2.1 28 7).toInt).toNat ∧ ((M.2.1 28 7).toInt).toNat ≤ 11 ∨ 28 ≤ 35 ∧ 35 ≤ 35 by omega)
            refine to_i (pc := 141) rw_100_141 rfl ?_
            refine s_r1 (pc := 143) rw_100_143 (A := r198.toInt) rfl (by omega) ?_
            have j_218 := (CS_f (fun a i z => W_n W214 (tg_173 a i _ z) rfl) p_203)
            have c_219 : M215.2.1 28 7 = (M207.2.1 28 7) := (W_n W214 (fun z => absurd z.1 (by decide)) rfl)
            have t_220 : (M215.2.1 28 7).toInt = (M207.2.1 28 7).toInt := congrArg Int32.toInt c_219
            have c_221 : M215.2.1 1 10 = (M207.2.1 1 10) := (W_n W214 (fun z => absurd z.1 (by decide)) rfl)
            have t_222 : (M215.2.1 1 10).toInt = (M207.2.1 1 10).toInt := congrArg Int32.toInt c_221
            have c_223 : M215.2.1 1 11 = (M207.2.1 1 11) := (W_n W214 (fun z => absurd z.1 (by decide)) rfl)
            have t_224 : (M215.2.1 1 11).toInt = (M207.2.1 1 11).toInt := congrArg Int32.toInt c_223
            exact h r198 M215 hG216 F217 (by omega) (by omega) j_218 (by omega) (fun z => by exfalso; omega) (fun _ => winl (by omega) (by omega) z_213)
          · skip
            have p_225 := p_204 (by omega)
            have p_226 := p_205 (by omega)
            clear p_204 p_205 p_206
            have z_227 : x_ww t nn sg 0 n9 op A9 a = x_wag t nn o.toInt (x_ns t nn a) (fun tm => x_ww t nn sg 0 (n9 + 1) (n9 :: op) (x_kt A9 n9 tm)) := (w_ag (by omega) (by omega) (by omega) (by omega) (by omega)).trans (by rw [q10])
            have z_228 := WA_e z_227 p_226
            refine to_is (pc := 128) rw_100_128 (ls2 := [.ref 28, .ref 1, .ref p, .ref 11, .int o, .int (M.2.1 1 8), .int (M.2.1 28 7), .int r198]) rfl rfl ?_
            refine to_an (pc := 130) rw_100_130 rfl ?_
            refine s_gR (pc := 131) rw_100_131 hG200 rfl (v := 35) rfl ?_
            refine to_i (pc := 134) rw_100_134 rfl ?_
            refine to_an (pc := 136) rw_100_136 rfl ?_
            refine tt_gI (pc := 137) rw_100_137 (g_o hG200 rfl) (v := (M207.2.1 28 7)) rfl ?_
            refine s_ias (pc := 140) rw_100_140 hG200 rfl (n := 40) rfl (A := (M.2.1 28 7).toInt) rfl (by omega) (by omega) (fun M230 W229 => ?_)
            have hG231 := g_w hG200 W229 (A := (M207.2.1 28 7).toInt) rfl (lo := 0) (hi := 40) rfl rfl (by omega) (by decide)
            have F232 := FR.w F208 W229 (show 35 = 1 ∧ 6 ≤ ((M.2.1 28 7).toInt).toNat ∧ ((M.2.1 28 7).toInt).toNat ≤ 11 ∨ 28 ≤ 35 ∧ 35 ≤ 35 by omega)
            refine to_i (pc := 141) rw_100_141 rfl ?_
            refine s_r1 (pc := 143) rw_100_143 (A := r198.toInt) rfl (by omega) ?_
            have j_233 := (CS_f (fun a i z => W_n W229 (tg_173 a i _ z) rfl) p_203)
            have c_234 : M230.2.1 28 7 = (M207.2.1 28 7) := (W_n W229 (fun z => absurd z.1 (by decide)) rfl)
            have t_235 : (M230.2.1 28 7).toInt = (M207.2.1 28 7).toInt := congrArg Int32.toInt c_234
            exact h r198 M230 hG231 F232 (by omega) (by omega) j_233 (by omega) (fun _ => WQ_a (by omega) (by omega) z_228 (fun y => by have := q11 n9 y; omega) (W9_i (by omega) W229) (by omega)) (fun z => by exfalso; omega)
        · refine to_an (pc := 42) rw_100_42 rfl ?_
          refine to_c (pc := 43) rw_100_43 (x := (2 : Int32)) rfl rfl ?_
          refine s_v (pc := 44) rw_100_44 (by omega) (ls0 := [.ref 1, .int (2 : Int32)]) rfl (Nat.le_of_ble_eq_true rfl) (Nat.le_of_ble_eq_true rfl) rfl (to_rc rfl rfl rfl (g_o hG rfl)) rfl ?_
          refine to_an (pc := 0) rw_84_0 rfl ?_
          refine to_in (pc := 1) rw_84_1 rfl ?_
          refine s_pI (pc := 2) rw_84_2 hG rfl (fun M237 W236 => ?_)
          have hG238 := g_wf hG W236 rfl rfl (by decide)
          have F239 := FR.w F0 W236 (show 1 = 1 ∧ 6 ≤ 10 ∧ 10 ≤ 11 ∨ 28 ≤ 1 ∧ 1 ≤ 35 by decide)
          refine to_an (pc := 5) rw_84_5 rfl ?_
          refine to_an (pc := 6) rw_84_6 rfl ?_
          have c_240 : M237.2.1 1 9 = (M.2.1 1 9) := (W_n W236 (by decide) rfl)
          refine tt_gI (pc := 7) rw_84_7 (g_o hG238 rfl) (v := (M.2.1 1 9)) c_240 ?_
          refine s_pI (pc := 10) rw_84_10 hG238 rfl (fun M242 W241 => ?_)
          have hG243 := g_wf hG238 W241 rfl rfl (by decide)
          have F244 := FR.w F239 W241 (show 1 = 1 ∧ 6 ≤ 11 ∧ 11 ≤ 11 ∨ 28 ≤ 1 ∧ 1 ≤ 35 by decide)
          refine to_c (pc := 13) rw_84_13 (x := (0 : Int32)) rfl rfl ?_
          refine s_r1 (pc := 14) rw_84_14 (A := 0) rfl (by decide) ?_
          refine s_r1 (pc := 47) rw_100_47 (A := 0) rfl (by decide) ?_
          have k_245 : (0 : Int32).toInt = 0 := rfl
          have j_246 := (CS_f (fun a i z => W_n W241 (tg_32 a i z) rfl) (CS_f (fun a i z => W_n W236 (tg_33 a i z) rfl) q3))
          have c_247 : M242.2.1 28 7 = (M.2.1 28 7) := (W_n W241 (by decide) (W_n W236 (by decide) rfl))
          have t_248 : (M242.2.1 28 7).toInt = (M.2.1 28 7).toInt := congrArg Int32.toInt c_247
          have c_249 : M242.2.1 1 10 = (2 : Int32) := (W_n W241 (by decide) (W_e W236))
          have k_250 : (2 : Int32).toInt = 2 := rfl
          have t_251 : (M242.2.1 1 10).toInt = (2 : Int32).toInt := congrArg Int32.toInt c_249
          have c_252 : M242.2.1 1 11 = (M.2.1 1 9) := (W_e W241)
          have t_253 : (M242.2.1 1 11).toInt = (M.2.1 1 9).toInt := congrArg Int32.toInt c_252
          exact h (0 : Int32) M242 hG243 F244 (by decide) (by decide) j_246 (by omega) (fun z => by exfalso; omega) (fun _ => winl (by omega) (by omega) (w_40 (by omega) (by omega) (by omega) (by omega) (by omega)))
      · have z_254 : ¬ (x_kx (x_val t nn a) = 7 ∨ x_kx (x_val t nn a) = 10 ∨ x_kx (x_val t nn a) = 11) := fun z => by rcases z with z | z | z; have := (x_kx_w2 (x_val t nn a)).1.mp z; omega; have := (x_kx_w2 (x_val t nn a)).2.2.2.1.mp z; omega; have := (x_kx_w2 (x_val t nn a)).2.2.2.2.mp z; omega
        refine to_an (pc := 27) rw_100_27 rfl ?_
        refine to_c (pc := 28) rw_100_28 (x := (1 : Int32)) rfl rfl ?_
        refine s_v (pc := 29) rw_100_29 (by omega) (ls0 := [.ref 1, .int (1 : Int32)]) rfl (Nat.le_of_ble_eq_true rfl) (Nat.le_of_ble_eq_true rfl) rfl (to_rc rfl rfl rfl (g_o hG rfl)) rfl ?_
        refine to_an (pc := 0) rw_84_0 rfl ?_
        refine to_in (pc := 1) rw_84_1 rfl ?_
        refine s_pI (pc := 2) rw_84_2 hG rfl (fun M256 W255 => ?_)
        have hG257 := g_wf hG W255 rfl rfl (by decide)
        have F258 := FR.w F0 W255 (show 1 = 1 ∧ 6 ≤ 10 ∧ 10 ≤ 11 ∨ 28 ≤ 1 ∧ 1 ≤ 35 by decide)
        refine to_an (pc := 5) rw_84_5 rfl ?_
        refine to_an (pc := 6) rw_84_6 rfl ?_
        have c_259 : M256.2.1 1 9 = (M.2.1 1 9) := (W_n W255 (by decide) rfl)
        refine tt_gI (pc := 7) rw_84_7 (g_o hG257 rfl) (v := (M.2.1 1 9)) c_259 ?_
        refine s_pI (pc := 10) rw_84_10 hG257 rfl (fun M261 W260 => ?_)
        have hG262 := g_wf hG257 W260 rfl rfl (by decide)
        have F263 := FR.w F258 W260 (show 1 = 1 ∧ 6 ≤ 11 ∧ 11 ≤ 11 ∨ 28 ≤ 1 ∧ 1 ≤ 35 by decide)
        refine to_c (pc := 13) rw_84_13 (x := (0 : Int32)) rfl rfl ?_
        refine s_r1 (pc := 14) rw_84_14 (A := 0) rfl (by decide) ?_
        refine s_r1 (pc := 32) rw_100_32 (A := 0) rfl (by decide) ?_
        have k_264 : (0 : Int32).toInt = 0 := rfl
        have j_265 := (CS_f (fun a i z => W_n W260 (tg_32 a i z) rfl) (CS_f (fun a i z => W_n W255 (tg_33 a i z) rfl) q3))
        have c_266 : M261.2.1 28 7 = (M.2.1 28 7) := (W_n W260 (by decide) (W_n W255 (by decide) rfl))
        have t_267 : (M261.2.1 28 7).toInt = (M.2.1 28 7).toInt := congrArg Int32.toInt c_266
        have c_268 : M261.2.1 1 10 = (1 : Int32) := (W_n W260 (by decide) (W_e W255))
        have k_269 : (1 : Int32).toInt = 1 := rfl
        have t_270 : (M261.2.1 1 10).toInt = (1 : Int32).toInt := congrArg Int32.toInt c_268
        have c_271 : M261.2.1 1 11 = (M.2.1 1 9) := (W_e W260)
        have t_272 : (M261.2.1 1 11).toInt = (M.2.1 1 9).toInt := congrArg Int32.toInt c_271
        exact h (0 : Int32) M261 hG262 F263 (by decide) (by decide) j_265 (by omega) (fun z => by exfalso; omega) (fun _ => winl (by omega) (by omega) (w_kx (by omega) (by omega) (by omega) (by omega)))
set_option maxRecDepth 4000 in
set_option maxHeartbeats 0 in
theorem U_99_0 {X : mm_X} {d : Nat} {M : mm_M} {Q : Option Value → mm_M → Prop} {p : Nat} {o : Int32} {t : Nat → Int} {nn : Int} {a : Int} {sg : x_S} {C9 : Nat → Int64} {n9 : Int} {op : List Int} {A9 : x_A} (hX : g_X X) (hd : 5 + 3 * (5 - o.toInt) ≤ (d : Int)) (hp : p = 49 ∨ p = 58) (q1 : 0 ≤ o.toInt) (q2 : o.toInt ≤ 5) (q3 : CS M t nn) (q4 : (M.2.1 1 9).toInt = a) (q5 : PLs M p sg) (q6 : ∀ w : Nat, (w : Int) < sg.2.2.1 → M.2.2.1 15 w = C9 w) (q7 : nn ≤ 500) (q8 : 0 ≤ n9) (q9 : WKc (x_DD t nn sg C9) M A9 n9 op) (q10 : (op.length : Int) = o.toInt) (q11 : ∀ m ∈ op, m < n9) (q12 : (M.2.1 28 7).toInt = n9) (hr : RE_99 (5 - o.toInt)) (h : ∀ (r : Int32) (M1 : mm_M), g_G M1 → FR md_w100 M M1 → (0 ≤ r.toInt) → (r.toInt ≤ 1) → CS M1 t nn → (r.toInt = 1 → n9 ≤ (M1.2.1 28 7).toInt) → ((r.toInt = 1 → WQ (x_DD t nn sg C9) t nn sg (x_ww t nn sg 0 n9 op A9 a) M1 A9 n9 op o.toInt ∧ ¬ x_kind t nn (M1.2.1 1 9).toInt = 1)) → ((r.toInt = 0 → x_ww t nn sg 0 n9 op A9 a = Sum.inl ((M1.2.1 1 10).toInt, (M1.2.1 1 11).toInt))) → Q (some (.int r)) M1) : ∀ nn9 : Nat, (∀ (N : mm_M) (x5 : Int32), g_G N → FR md_w100 M N → (0 ≤ x5.toInt) → (x5.toInt ≤ 41) → (x5.toInt ≤ (N.2.1 28 7).toInt) → (n9 ≤ (N.2.1 28 7).toInt) → (o.toInt = o.toInt) → (CS N t nn) → (PLs N p sg) → (∀ w : Nat, (w : Int) < sg.2.2.1 → N.2.2.1 15 w = C9 w) → (WQ (x_DD t nn sg C9) t nn sg (x_ww t nn sg 0 n9 op A9 a) N A9 n9 op o.toInt) → 41 - x5.toInt < (nn9 : Int) → mm_T X d 99 3 [.ref 28, .ref 1, .ref p, .ref 11, .int o, .int x5] [] N Q) := by
  intro nn9
  induction nn9 with
  | zero =>
    intro N x5 hG F0 g1 g2 g3 g4 g5 g6 g7 g8 g9 hm
    have b_1 := g_b hG (a := 28) (i := 7) (lo := 0) (hi := 40) rfl rfl
    exfalso; omega
  | succ nn9 ih =>
    intro N x5 hG F0 g1 g2 g3 g4 g5 g6 g7 g8 g9 hm
    have b_2 := g_b hG (a := 28) (i := 7) (lo := 0) (hi := 40) rfl rfl
    obtain ⟨B, i_1, i_2, i_3, i_4⟩ := id g9
    have c_3 := CS_u g6 (a := (N.2.1 1 9).toInt) (by omega)
    unfold x_C at c_3
    refine to_i (pc := 3) rw_99_3 rfl ?_
    refine to_c (pc := 5) rw_99_5 (x := (40 : Int32)) rfl rfl ?_
    refine b_cgt (pc := 7) rw_99_7 (A := x5.toInt) (B := 40) rfl rfl (fun h4 => ?_) (fun h4 => ?_)
    · refine to_c (pc := 38) rw_99_38 (x := (1 : Int32)) rfl rfl ?_
      refine s_r1 (pc := 39) rw_99_39 (A := 1) rfl (by decide) ?_
      have k_5 : (1 : Int32).toInt = 1 := rfl
      exact h (1 : Int32) N hG F0 (by decide) (by decide) g6 (by omega) (fun _ => ⟨g9, by omega⟩) (fun z => by exfalso; omega)
    · refine to_an (pc := 10) rw_99_10 rfl ?_
      refine tt_gI (pc := 11) rw_99_11 (g_o hG rfl) (v := (N.2.1 1 7)) rfl ?_
      refine to_c (pc := 14) rw_99_14 (x := (4 : Int32)) rfl rfl ?_
      refine b_cne (pc := 15) rw_99_15 (A := (N.2.1 1 7).toInt) (B := 4) rfl rfl (fun h6 => ?_) (fun h6 => ?_)
      · refine to_c (pc := 38) rw_99_38 (x := (1 : Int32)) rfl rfl ?_
        refine s_r1 (pc := 39) rw_99_39 (A := 1) rfl (by decide) ?_
        have k_7 : (1 : Int32).toInt = 1 := rfl
        exact h (1 : Int32) N hG F0 (by decide) (by decide) g6 (by omega) (fun _ => ⟨g9, by omega⟩) (fun z => by exfalso; omega)
      · refine to_an (pc := 18) rw_99_18 rfl ?_
        refine to_an (pc := 19) rw_99_19 rfl ?_
        refine to_an (pc := 20) rw_99_20 rfl ?_
        refine to_an (pc := 21) rw_99_21 rfl ?_
        refine to_i (pc := 22) rw_99_22 rfl ?_
        refine s_v (pc := 24) rw_99_24 (by omega) (ls0 := [.ref 28, .ref 1, .ref p, .ref 11, .int o, .null, .null, .null]) rfl (Nat.le_of_ble_eq_true rfl) (Nat.le_of_ble_eq_true rfl) rfl (to_rc rfl rfl rfl (g_o hG rfl)) rfl ?_
        refine E_100 hX (by omega) hG hp (by omega) (by omega) g6 (by omega) g7 g8 (by omega) (by omega) i_1 q10 (fun m hm => by have := q11 m hm; omega) (by omega) (by omega) hr (p := p) (o := o) (t := t) (nn := nn) (a := (N.2.1 1 9).toInt) (sg := sg) (C9 := C9) (n9 := (N.2.1 28 7).toInt) (op := op) (A9 := B) (fun r8 M17 hG10 F9 p_11 p_12 p_13 p_14 p_15 p_16 => ?_)
        have F18 := FR.c F0 F9 tg_168
        have b_19 := g_b hG10 (a := 28) (i := 7) (lo := 0) (hi := 40) rfl rfl
        rcases (show r8.toInt = 0 ∨ r8.toInt = 1 by omega) with h20 | h20
        · skip
          have p_21 := p_16 (by omega)
          clear p_14 p_15 p_16
          have z_22 := i_2.trans p_21
          refine b_ine_f (pc := 27) rw_99_27 (A := r8.toInt) rfl (by omega) ?_
          refine to_c (pc := 30) rw_99_30 (x := (0 : Int32)) rfl rfl ?_
          refine s_r1 (pc := 31) rw_99_31 (A := 0) rfl (by decide) ?_
          have k_23 : (0 : Int32).toInt = 0 := rfl
          exact h (0 : Int32) M17 hG10 F18 (by decide) (by decide) p_13 (by omega) (fun z => by exfalso; omega) (fun _ => winl (by omega) (by omega) z_22)
        · skip
          have p_24 := p_14 (by omega)
          have p_25 := p_15 (by omega)
          clear p_14 p_15 p_16
          have z_26 := WQ_s (by omega) (by omega) i_3 i_4 (WQ_e i_2 p_25)
          refine b_ine_t (pc := 27) rw_99_27 (A := r8.toInt) rfl (by omega) ?_
          refine s_inc (pc := 32) rw_99_32 (ls2 := fun v => [.ref 28, .ref 1, .ref p, .ref 11, .int o, .int v]) rfl rfl (fun _ => rfl) (A := x5.toInt) (B := 1) rfl rfl (by omega) (fun v27 e28 => ?_)
          refine to_go (pc := 35) rw_99_35 ?_
          have j_29 := (PLs_f (fun a i z => F_n F9 (show ¬ (a = 1 ∧ 6 ≤ i ∧ i ≤ 11 ∨ 28 ≤ a ∧ a ≤ 35) by omega) rfl) g7)
          exact ih M17 v27 hG10 F18 (by omega) (by omega) (by omega) (by omega) (by omega) p_13 j_29 (fun w hw => by rw [show M17.2.2.1 15 w = N.2.2.1 15 w from (F_nl F9 (show ¬ (15 = 1 ∧ 6 ≤ w ∧ w ≤ 11 ∨ 28 ≤ 15 ∧ 15 ≤ 35) by omega) rfl)]; exact g8 w hw) z_26 (by omega)
set_option maxRecDepth 4000 in
set_option maxHeartbeats 0 in
theorem BE_99 {X : mm_X} {d : Nat} {M : mm_M} {Q : Option Value → mm_M → Prop} {p : Nat} {o : Int32} {t : Nat → Int} {nn : Int} {a : Int} {sg : x_S} {C9 : Nat → Int64} {n9 : Int} {op : List Int} {A9 : x_A} (hX : g_X X) (hd : 5 + 3 * (5 - o.toInt) ≤ (d : Int)) (hG : g_G M) (hp : p = 49 ∨ p = 58) (q1 : 0 ≤ o.toInt) (q2 : o.toInt ≤ 5) (q3 : CS M t nn) (q4 : (M.2.1 1 9).toInt = a) (q5 : PLs M p sg) (q6 : ∀ w : Nat, (w : Int) < sg.2.2.1 → M.2.2.1 15 w = C9 w) (q7 : nn ≤ 500) (q8 : 0 ≤ n9) (q9 : WKc (x_DD t nn sg C9) M A9 n9 op) (q10 : (op.length : Int) = o.toInt) (q11 : ∀ m ∈ op, m < n9) (q12 : (M.2.1 28 7).toInt = n9) (hr : RE_99 (5 - o.toInt)) (h : ∀ (r : Int32) (M1 : mm_M), g_G M1 → FR md_w100 M M1 → (0 ≤ r.toInt) → (r.toInt ≤ 1) → CS M1 t nn → (r.toInt = 1 → n9 ≤ (M1.2.1 28 7).toInt) → ((r.toInt = 1 → WQ (x_DD t nn sg C9) t nn sg (x_ww t nn sg 0 n9 op A9 a) M1 A9 n9 op o.toInt ∧ ¬ x_kind t nn (M1.2.1 1 9).toInt = 1)) → ((r.toInt = 0 → x_ww t nn sg 0 n9 op A9 a = Sum.inl ((M1.2.1 1 10).toInt, (M1.2.1 1 11).toInt))) → Q (some (.int r)) M1) : mm_T X d 99 0 [.ref 28, .ref 1, .ref p, .ref 11, .int o, .null] [] M Q := by
  have F0 : FR md_w100 M M := FR.rf
  have b_30 := g_b hG (a := 28) (i := 7) (lo := 0) (hi := 40) rfl rfl
  refine to_c (pc := 0) rw_99_0 (x := (0 : Int32)) rfl rfl ?_
  refine to_is (pc := 1) rw_99_1 (ls2 := [.ref 28, .ref 1, .ref p, .ref 11, .int o, .int (0 : Int32)]) rfl rfl ?_
  have k_31 : (0 : Int32).toInt = 0 := rfl
  exact (U_99_0 (p := p) (o := o) (t := t) (nn := nn) (a := a) (sg := sg) (C9 := C9) (n9 := n9) (op := op) (A9 := A9) hX hd hp q1 q2 q3 q4 q5 q6 q7 q8 q9 q10 q11 q12 hr h ((41 - (0 : Int32).toInt).toNat + 1)) M (0 : Int32) hG F0 (by omega) (by omega) (by omega) (by omega) (by omega) q3 q5 q6 (WQ_0 q9 (by omega) (by omega) rfl) (by omega)
theorem RE_99_all : ∀ nn : Nat, RE_99 (nn : Int) := by
  intro nn
  induction nn with
  | zero =>
    intro X d M Q p o t nn a sg C9 n9 op A9 hX hd hG hp q1 q2 q3 q4 q5 q6 q7 q8 q9 q10 q11 q12 hm h
    exfalso; omega
  | succ nn ih =>
    intro X d M Q p o t nn a sg C9 n9 op A9 hX hd hG hp q1 q2 q3 q4 q5 q6 q7 q8 q9 q10 q11 q12 hm h
    exact BE_99 hX hd hG hp q1 q2 q3 q4 q5 q6 q7 q8 q9 q10 q11 q12 (fun X2 d2 M2 Q2 p2 o2 t2 nn2 a2 sg2 C92 n92 op2 A92 e71 e72 e73 hp2 q12 q22 q32 q42 q52 q62 q72 q82 q92 q102 q112 q122 hm2 h2 => ih X2 d2 M2 Q2 p2 o2 t2 nn2 a2 sg2 C92 n92 op2 A92 e71 e72 e73 hp2 q12 q22 q32 q42 q52 q62 q72 q82 q92 q102 q112 q122 (by omega) h2) h
theorem E_99 {X : mm_X} {d : Nat} {M : mm_M} {Q : Option Value → mm_M → Prop} {p : Nat} {o : Int32} {t : Nat → Int} {nn : Int} {a : Int} {sg : x_S} {C9 : Nat → Int64} {n9 : Int} {op : List Int} {A9 : x_A} (hX : g_X X) (hd : 5 + 3 * (5 - o.toInt) ≤ (d : Int)) (hG : g_G M) (hp : p = 49 ∨ p = 58) (q1 : 0 ≤ o.toInt) (q2 : o.toInt ≤ 5) (q3 : CS M t nn) (q4 : (M.2.1 1 9).toInt = a) (q5 : PLs M p sg) (q6 : ∀ w : Nat, (w : Int) < sg.2.2.1 → M.2.2.1 15 w = C9 w) (q7 : nn ≤ 500) (q8 : 0 ≤ n9) (q9 : WKc (x_DD t nn sg C9) M A9 n9 op) (q10 : (op.length : Int) = o.toInt) (q11 : ∀ m ∈ op, m < n9) (q12 : (M.2.1 28 7).toInt = n9) (h : ∀ (r : Int32) (M1 : mm_M), g_G M1 → FR md_w100 M M1 → (0 ≤ r.toInt) → (r.toInt ≤ 1) → CS M1 t nn → (r.toInt = 1 → n9 ≤ (M1.2.1 28 7).toInt) → ((r.toInt = 1 → WQ (x_DD t nn sg C9) t nn sg (x_ww t nn sg 0 n9 op A9 a) M1 A9 n9 op o.toInt ∧ ¬ x_kind t nn (M1.2.1 1 9).toInt = 1)) → ((r.toInt = 0 → x_ww t nn sg 0 n9 op A9 a = Sum.inl ((M1.2.1 1 10).toInt, (M1.2.1 1 11).toInt))) → Q (some (.int r)) M1) : mm_T X d 99 0 [.ref 28, .ref 1, .ref p, .ref 11, .int o, .null] [] M Q := RE_99_all ((5 - o.toInt).toNat + 1) X d M Q p o t nn a sg C9 n9 op A9 hX hd hG hp q1 q2 q3 q4 q5 q6 q7 q8 q9 q10 q11 q12 (by omega) h
set_option maxRecDepth 4000 in
set_option maxHeartbeats 0 in
theorem E_98 {X : mm_X} {d : Nat} {M : mm_M} {Q : Option Value → mm_M → Prop} {p : Nat} {t : Nat → Int} {nn : Int} {a : Int} {sg : x_S} {C9 : Nat → Int64} (hX : g_X X) (hd : 21 ≤ d) (hG : g_G M) (hp : p = 49 ∨ p = 58) (q1 : CS M t nn) (q2 : (M.2.1 1 9).toInt = a) (q3 : PLs M p sg) (q4 : ∀ w : Nat, (w : Int) < sg.2.2.1 → M.2.2.1 15 w = C9 w) (q5 : nn ≤ 500) (h : ∀ (r : Int32) (M1 : mm_M), g_G M1 → FR md_w100 M M1 → (0 ≤ r.toInt) → (r.toInt ≤ 1) → CS M1 t nn → ((r.toInt = 1 → WR98 (x_DD t nn sg C9) (x_ww t nn sg 0 0 [] x_A0 a) M1)) → ((r.toInt = 0 → x_ww t nn sg 0 0 [] x_A0 a = Sum.inl ((M1.2.1 1 10).toInt, (M1.2.1 1 11).toInt))) → Q (some (.int r)) M1) : mm_T X d 98 0 [.ref 28, .ref 1, .ref p, .ref 11] [] M Q := by
  have F0 : FR md_w100 M M := FR.rf
  have c_1 := CS_u q1 (a := a) (by omega)
  unfold x_C at c_1
  refine to_an (pc := 0) rw_98_0 rfl ?_
  refine to_c (pc := 1) rw_98_1 (x := (0 : Int32)) rfl rfl ?_
  refine s_pI (pc := 2) rw_98_2 hG rfl (fun M3 W2 => ?_)
  have hG4 := g_w hG W2 (A := 0) rfl (lo := 0) (hi := 40) rfl rfl (by omega) (by decide)
  have F5 := FR.w F0 W2 (show 28 = 1 ∧ 6 ≤ 7 ∧ 7 ≤ 11 ∨ 28 ≤ 28 ∧ 28 ≤ 35 by decide)
  refine to_an (pc := 5) rw_98_5 rfl ?_
  refine to_an (pc := 6) rw_98_6 rfl ?_
  refine to_an (pc := 7) rw_98_7 rfl ?_
  refine to_an (pc := 8) rw_98_8 rfl ?_
  refine to_c (pc := 9) rw_98_9 (x := (0 : Int32)) rfl rfl ?_
  refine s_v (pc := 10) rw_98_10 (dp0 hd (by decide)) (ls0 := [.ref 28, .ref 1, .ref p, .ref 11, .int (0 : Int32), .null]) rfl (Nat.le_of_ble_eq_true rfl) (Nat.le_of_ble_eq_true rfl) rfl (to_rc rfl rfl rfl (g_o hG4 rfl)) rfl ?_
  have k_6 : (0 : Int32).toInt = 0 := rfl
  have j_7 := (CS_f (fun a i z => W_n W2 (tg_172 a i z) rfl) q1)
  have c_8 : M3.2.1 1 9 = (M.2.1 1 9) := (W_n W2 (by decide) rfl)
  have t_9 : (M3.2.1 1 9).toInt = (M.2.1 1 9).toInt := congrArg Int32.toInt c_8
  have j_10 := (PLs_f (fun a i z => W_n W2 (by /-r28,7-/ omega) rfl) q3)
  have c_11 : M3.2.1 28 7 = (0 : Int32) := (W_e W2)
  have t_12 : (M3.2.1 28 7).toInt = (0 : Int32).toInt := congrArg Int32.toInt c_11
  refine E_99 hX (by omega) hG4 hp (by omega) (by omega) j_7 (by omega) j_10 (fun w hw => by rw [show M3.2.2.1 15 w = M.2.2.1 15 w from (W_j W2 rfl)]; exact q4 w hw) (by omega) (by omega) (fun i hi => by exfalso; omega) rfl (fun m hm => absurd hm List.not_mem_nil) (by omega) (p := p) (o := (0 : Int32)) (t := t) (nn := nn) (a := a) (sg := sg) (C9 := C9) (n9 := 0) (op := []) (A9 := x_A0) (fun r13 M22 hG15 F14 p_16 p_17 p_18 p_19 p_20 p_21 => ?_)
  have F23 := FR.c F5 F14 tg_168
  have b_24 := g_b hG15 (a := 28) (i := 7) (lo := 0) (hi := 40) rfl rfl
  rcases (show r13.toInt = 0 ∨ r13.toInt = 1 by omega) with h25 | h25
  · skip
    have p_26 := p_21 (by omega)
    clear p_19 p_20 p_21
    have z_27 := p_26
    refine b_ieq_t (pc := 13) rw_98_13 (A := r13.toInt) rfl (by omega) ?_
    refine to_c (pc := 27) rw_98_27 (x := (0 : Int32)) rfl rfl ?_
    refine s_r1 (pc := 28) rw_98_28 (A := 0) rfl (by decide) ?_
    exact h (0 : Int32) M22 hG15 F23 (by decide) (by decide) p_18 (fun z => by exfalso; omega) (fun _ => winl (by omega) (by omega) z_27)
  · skip
    have p_28 := p_19 (by omega)
    have p_29 := p_20 (by omega)
    clear p_19 p_20 p_21
    have z_30 := p_29.1
    have z_31 := p_29.2
    have c_32 := CS_u p_18 (a := (M22.2.1 1 9).toInt) (by omega)
    unfold x_C at c_32
    refine b_ieq_f (pc := 13) rw_98_13 (A := r13.toInt) rfl (by omega) ?_
    refine to_an (pc := 16) rw_98_16 rfl ?_
    refine s_v (pc := 17) rw_98_17 (dp0 hd (by decide)) (ls0 := [.ref 1]) rfl (Nat.le_of_ble_eq_true rfl) (Nat.le_of_ble_eq_true rfl) rfl (to_rc rfl rfl rfl (g_o hG15 rfl)) rfl ?_
    refine to_an (pc := 0) rw_87_0 rfl ?_
    refine tt_gI (pc := 1) rw_87_1 (g_o hG15 rfl) (v := (M22.2.1 1 7)) rfl ?_
    refine b_ieq (pc := 4) rw_87_4 (A := (M22.2.1 1 7).toInt) rfl (fun h33 => ?_) (fun h33 => ?_)
    · refine to_c (pc := 15) rw_87_15 (x := (1 : Int32)) rfl rfl ?_
      refine to_go (pc := 16) rw_87_16 ?_
      refine s_r1 (pc := 20) rw_87_20 (A := 1) rfl (by decide) ?_
      refine b_ieq_f (pc := 20) rw_98_20 (A := 1) rfl (by decide) ?_
      refine to_c (pc := 23) rw_98_23 (x := (1 : Int32)) rfl rfl ?_
      refine to_go (pc := 24) rw_98_24 ?_
      refine s_r1 (pc := 28) rw_98_28 (A := 1) rfl (by decide) ?_
      have k_34 : (1 : Int32).toInt = 1 := rfl
      exact h (1 : Int32) M22 hG15 F23 (by decide) (by decide) p_18 (fun _ => WR_i z_30 (by omega) (by omega) (by omega)) (fun z => by exfalso; omega)
    · refine to_an (pc := 7) rw_87_7 rfl ?_
      refine to_c (pc := 8) rw_87_8 (x := (1 : Int32)) rfl rfl ?_
      refine s_v (pc := 9) rw_87_9 (dp1 hd (by decide)) (ls0 := [.ref 1, .int (1 : Int32)]) rfl (Nat.le_of_ble_eq_true rfl) (Nat.le_of_ble_eq_true rfl) rfl (to_rc rfl rfl rfl (g_o hG15 rfl)) rfl ?_
      refine to_an (pc := 0) rw_84_0 rfl ?_
      refine to_in (pc := 1) rw_84_1 rfl ?_
      refine s_pI (pc := 2) rw_84_2 hG15 rfl (fun M36 W35 => ?_)
      have hG37 := g_wf hG15 W35 rfl rfl (by decide)
      have F38 := FR.w F23 W35 (show 1 = 1 ∧ 6 ≤ 10 ∧ 10 ≤ 11 ∨ 28 ≤ 1 ∧ 1 ≤ 35 by decide)
      refine to_an (pc := 5) rw_84_5 rfl ?_
      refine to_an (pc := 6) rw_84_6 rfl ?_
      have c_39 : M36.2.1 1 9 = (M22.2.1 1 9) := (W_n W35 (by decide) rfl)
      refine tt_gI (pc := 7) rw_84_7 (g_o hG37 rfl) (v := (M22.2.1 1 9)) c_39 ?_
      refine s_pI (pc := 10) rw_84_10 hG37 rfl (fun M41 W40 => ?_)
      have hG42 := g_wf hG37 W40 rfl rfl (by decide)
      have F43 := FR.w F38 W40 (show 1 = 1 ∧ 6 ≤ 11 ∧ 11 ≤ 11 ∨ 28 ≤ 1 ∧ 1 ≤ 35 by decide)
      refine to_c (pc := 13) rw_84_13 (x := (0 : Int32)) rfl rfl ?_
      refine s_r1 (pc := 14) rw_84_14 (A := 0) rfl (by decide) ?_
      refine b_ieq_t (pc := 12) rw_87_12 (A := 0) rfl (by decide) ?_
      refine to_c (pc := 19) rw_87_19 (x := (0 : Int32)) rfl rfl ?_
      refine s_r1 (pc := 20) rw_87_20 (A := 0) rfl (by decide) ?_
      refine b_ieq_t (pc := 20) rw_98_20 (A := 0) rfl (by decide) ?_
      refine to_c (pc := 27) rw_98_27 (x := (0 : Int32)) rfl rfl ?_
      refine s_r1 (pc := 28) rw_98_28 (A := 0) rfl (by decide) ?_
      have j_44 := (CS_f (fun a i z => W_n W40 (tg_32 a i z) rfl) (CS_f (fun a i z => W_n W35 (tg_33 a i z) rfl) p_18))
      have c_45 : M41.2.1 1 10 = (1 : Int32) := (W_n W40 (by decide) (W_e W35))
      have k_46 : (1 : Int32).toInt = 1 := rfl
      have t_47 : (M41.2.1 1 10).toInt = (1 : Int32).toInt := congrArg Int32.toInt c_45
      have c_48 : M41.2.1 1 11 = (M22.2.1 1 9) := (W_e W40)
      have t_49 : (M41.2.1 1 11).toInt = (M22.2.1 1 9).toInt := congrArg Int32.toInt c_48
      exact h (0 : Int32) M41 hG42 F43 (by decide) (by decide) j_44 (fun z => by exfalso; omega) (fun _ => winl (by omega) (by omega) (WR_x z_30 (by omega) (by omega) (by omega) (by omega)))
