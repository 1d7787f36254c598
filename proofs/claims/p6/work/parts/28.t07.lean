theorem tg_142 : ∀ a i : Nat, (a = 1 ∧ (i = 10 ∨ i = 11)) → (a = 1 ∧ 6 ≤ i ∧ i ≤ 11 ∨ 28 ≤ a ∧ a ≤ 35) := fun a i z => by omega
theorem tg_143 : ∀ a i : Nat, (a = 1 ∧ 6 ≤ i ∧ i ≤ 9) → (a = 1 ∧ 6 ≤ i ∧ i ≤ 11 ∨ 28 ≤ a ∧ a ≤ 35) := fun a i z => by omega
theorem tg_144 : ∀ a i : Nat, (a = 1 ∧ 6 ≤ i ∧ i ≤ 11) → (a = 1 ∧ 6 ≤ i ∧ i ≤ 11 ∨ 28 ≤ a ∧ a ≤ 35) := fun a i z => by omega
theorem tg_145 : ∀ a i : Nat, (a = 1 ∧ 6 ≤ i ∧ i ≤ 11 ∨ 28 ≤ a ∧ a ≤ 35) → (a = 1 ∧ 6 ≤ i ∧ i ≤ 11 ∨ 28 ≤ a ∧ a ≤ 35) := fun a i z => by omega
theorem tg_146 : ∀ a i : Nat, (a = 1 ∧ 6 ≤ i ∧ i ≤ 11 ∨ 30 ≤ a ∧ a ≤ 33) → (a = 1 ∧ 6 ≤ i ∧ i ≤ 11 ∨ 28 ≤ a ∧ a ≤ 35) := fun a i z => by omega
theorem tg_147 : ∀ a i : Nat, (a = 29 ∨ a = 34 ∨ a = 35) → ¬ (a = 1 ∧ (i = 10 ∨ i = 11)) := fun a i z => by omega
theorem tg_148 : ∀ a i j : Nat, (a = 1 ∧ 5 ≤ i ∧ i ≤ 9 ∨ 3 ≤ a ∧ a ≤ 5) → ¬ (a = 34 ∧ i = j) := fun a i j z => by omega
theorem tg_149 : ∀ a i : Nat, (a = 29 ∨ a = 34 ∨ a = 35) → ¬ (a = 1 ∧ 6 ≤ i ∧ i ≤ 11) := fun a i z => by omega
theorem tg_150 : ∀ a i : Nat, (a = 29 ∨ a = 34 ∨ a = 35) → ¬ (a = 1 ∧ 6 ≤ i ∧ i ≤ 9) := fun a i z => by omega
theorem tg_151 : ∀ a i : Nat, (a = 29 ∨ a = 34 ∨ a = 35) → ¬ (a = 28 ∧ i = 7) := fun a i z => by omega
theorem tg_152 : ∀ a i j : Nat, (a = 1 ∧ 5 ≤ i ∧ i ≤ 9 ∨ 3 ≤ a ∧ a ≤ 5) → ¬ (a = 29 ∧ i = j) := fun a i j z => by omega
theorem tg_153 : ∀ a i : Nat, (a = 1 ∧ 5 ≤ i ∧ i ≤ 9 ∨ 3 ≤ a ∧ a ≤ 5) → ¬ (a = 28 ∧ i = 7) := fun a i z => by omega
theorem tg_154 : ∀ a i j : Nat, (a = 1 ∧ 5 ≤ i ∧ i ≤ 9 ∨ 3 ≤ a ∧ a ≤ 5) → ¬ (a = 35 ∧ i = j) := fun a i j z => by omega
theorem tg_155 : ∀ a i : Nat, (a = 29 ∨ a = 34 ∨ a = 35) → ¬ (a = 1 ∧ 6 ≤ i ∧ i ≤ 11 ∨ 30 ≤ a ∧ a ≤ 33) := fun a i z => by omega
noncomputable def RE_99 (k : Int) : Prop := ∀ (X : mm_X) (d : Nat) (M : mm_M) (Q : Option Value → mm_M → Prop) (p : Nat) (o : Int32) (t : Nat → Int) (nn : Int) (a : Int) (sg : x_S) (n9 : Int) (op : List Int) (A9 : x_A), g_X X → (5 + 3 * (5 - o.toInt) ≤ (d : Int)) → g_G M → (p = 49 ∨ p = 58) → (0 ≤ o.toInt) → (o.toInt ≤ 5) → CS M t nn → ((M.2.1 1 9).toInt = a) → PLs M p sg → (nn ≤ 500) → (0 ≤ n9) → (WKc M A9 n9 op) → ((op.length : Int) = o.toInt) → (∀ m ∈ op, m < n9) → ((M.2.1 28 7).toInt = n9) → 5 - o.toInt < k → (∀ (r : Int32) (M1 : mm_M), g_G M1 → FR md_w100 M M1 → (0 ≤ r.toInt) → (r.toInt ≤ 1) → CS M1 t nn → (r.toInt = 1 → n9 ≤ (M1.2.1 28 7).toInt) → ((r.toInt = 1 → WQ t nn sg (x_ww t nn sg 0 n9 op A9 a) M1 A9 n9 op o.toInt ∧ ¬ x_kind t nn (M1.2.1 1 9).toInt = 1)) → ((r.toInt = 0 → x_ww t nn sg 0 n9 op A9 a = Sum.inl ((M1.2.1 1 10).toInt, (M1.2.1 1 11).toInt))) → (r.toInt = 1 → (M1.2.1 1 10).toInt = (M.2.1 1 10).toInt ∧ (M1.2.1 1 11).toInt = (M.2.1 1 11).toInt) → Q (some (.int r)) M1) → mm_T X d 99 0 [.ref 28, .ref 1, .ref p, .ref 11, .int o, .null] [] M Q
set_option maxRecDepth 4000 in
set_option maxHeartbeats 0 in
theorem E_105 {X : mm_X} {d : Nat} {M : mm_M} {Q : Option Value → mm_M → Prop} {p : Nat} {o : Int32} {s : Int32} {t : Nat → Int} {nn : Int} {a : Int} {sg : x_S} {n9 : Int} {op : List Int} {A9 : x_A} (hX : g_X X) (hd : 3 + 3 * (5 - o.toInt) ≤ (d : Int)) (hG : g_G M) (hp : p = 49 ∨ p = 58) (q1 : 0 ≤ o.toInt) (q2 : o.toInt ≤ 5) (q3 : 0 ≤ s.toInt) (q4 : s.toInt ≤ 39) (q5 : CS M t nn) (q6 : (M.2.1 1 9).toInt = a) (q7 : PLs M p sg) (q8 : nn ≤ 500) (q9 : 0 ≤ n9) (q10 : WKc M A9 n9 op) (q11 : (op.length : Int) = o.toInt) (q12 : ∀ m ∈ op, m < n9) (q13 : s.toInt = n9) (q14 : (M.2.1 28 7).toInt = n9 + 1) (q15 : (M.2.1 29 n9.toNat).toInt = 40936896) (hr : RE_99 (5 - o.toInt)) (h : ∀ (r : Int32) (M1 : mm_M), g_G M1 → FR md_w100 M M1 → (0 ≤ r.toInt) → (r.toInt ≤ 1) → CS M1 t nn → (r.toInt = 1 → n9 < (M1.2.1 28 7).toInt) → ((r.toInt = 1 → WA t nn sg (x_wag t nn o.toInt a (fun tm => x_ww t nn sg 0 (n9 + 1) (n9 :: op) (x_kt A9 n9 tm))) M1 A9 n9 op o.toInt)) → ((r.toInt = 0 → x_wag t nn o.toInt a (fun tm => x_ww t nn sg 0 (n9 + 1) (n9 :: op) (x_kt A9 n9 tm)) = Sum.inl ((M1.2.1 1 10).toInt, (M1.2.1 1 11).toInt))) → (r.toInt = 1 → (M1.2.1 1 10).toInt = (M.2.1 1 10).toInt ∧ (M1.2.1 1 11).toInt = (M.2.1 1 11).toInt) → Q (some (.int r)) M1) : mm_T X d 105 0 [.ref 28, .ref 1, .ref p, .ref 11, .int o, .int s] [] M Q := by
  have F0 : FR md_w100 M M := FR.rf
  have b_1 := g_b hG (a := 28) (i := 7) (lo := 0) (hi := 40) rfl rfl
  refine to_an (pc := 0) rw_105_0 rfl ?_
  refine to_c (pc := 1) rw_105_1 (x := (0 : Int32)) rfl rfl ?_
  refine to_c (pc := 2) rw_105_2 (x := (99 : Int32)) rfl rfl ?_
  refine s_v (pc := 4) rw_105_4 (by omega) (ls0 := [.ref 1, .int (0 : Int32), .int (99 : Int32)]) rfl (Nat.le_of_ble_eq_true rfl) (Nat.le_of_ble_eq_true rfl) rfl (to_rc rfl rfl rfl (g_o hG rfl)) rfl ?_
  have k_2 : (0 : Int32).toInt = 0 := rfl
  have k_3 : (99 : Int32).toInt = 99 := rfl
  refine E_88f hX (by omega) hG q5 (by omega) (l := (0 : Int32)) (m := (99 : Int32)) (t := t) (nn := nn) (a := a) (fun r4 M15 hG6 F5 p_7 p_8 p_9 p_10 p_11 p_12 p_13 p_14 => ?_)
  have F16 := FR.c F0 F5 tg_142
  rcases (show r4.toInt = 0 ∨ r4.toInt = 1 by omega) with h17 | h17
  · skip
    have p_18 := p_10 (by omega)
    have p_19 := p_11 (by omega)
    clear p_9 p_10 p_11 p_14
    have z_20 := x_val_b (t := t) (nn := nn) (a := a)
    refine b_ine_f (pc := 7) rw_105_7 (A := r4.toInt) rfl (by omega) ?_
    refine to_c (pc := 10) rw_105_10 (x := (0 : Int32)) rfl rfl ?_
    refine s_r1 (pc := 11) rw_105_11 (A := 0) rfl (by decide) ?_
    have j_21 := (CS_f (tg_34 F5) q5)
    have c_22 : M15.2.1 28 7 = (M.2.1 28 7) := (F_n F5 (show ¬ (28 = 1 ∧ (7 = 10 ∨ 7 = 11)) by decide) rfl)
    have t_23 : (M15.2.1 28 7).toInt = (M.2.1 28 7).toInt := congrArg Int32.toInt c_22
    exact h (0 : Int32) M15 hG6 F16 (by decide) (by decide) j_21 (by omega) (fun z => by exfalso; omega) (fun _ => if g9 : x_kind t nn a = 3 then winl (by omega) (by omega) (ag_2 g9 (by omega)) else winl (by omega) (by omega) (ag_1 g9)) (by omega)
  · skip
    have p_24 := p_9 (by omega)
    have p_25 := p_14 (by omega)
    clear p_9 p_10 p_11 p_14
    have z_26 := x_val_b (t := t) (nn := nn) (a := a) (by omega)
    refine b_ine_t (pc := 7) rw_105_7 (A := r4.toInt) rfl (by omega) ?_
    refine to_an (pc := 12) rw_105_12 rfl ?_
    refine s_gR (pc := 13) rw_105_13 hG6 rfl (v := 34) rfl ?_
    refine to_i (pc := 16) rw_105_16 rfl ?_
    refine to_an (pc := 18) rw_105_18 rfl ?_
    have c_27 : M15.2.1 1 8 = (M.2.1 1 8) := (F_n F5 (show ¬ (1 = 1 ∧ (8 = 10 ∨ 8 = 11)) by decide) rfl)
    refine tt_gI (pc := 19) rw_105_19 (g_o hG6 rfl) (v := (M.2.1 1 8)) c_27 ?_
    refine s_ias (pc := 22) rw_105_22 hG6 rfl (n := 40) rfl (A := s.toInt) rfl (by omega) (by omega) (fun M29 W28 => ?_)
    have hG30 := g_w hG6 W28 (A := (M.2.1 1 8).toInt) rfl (lo := 0) (hi := 99) rfl rfl (by omega) (by decide)
    have F31 := FR.w F16 W28 (show 34 = 1 ∧ 6 ≤ (s.toInt).toNat ∧ (s.toInt).toNat ≤ 11 ∨ 28 ≤ 34 ∧ 34 ≤ 35 by omega)
    have z_32 := WKc_w2 (WKc_f (fun a i z => (F_n F5 (tg_147 a i z) rfl)) q10) W28 (by omega)
    refine to_an (pc := 23) rw_105_23 rfl ?_
    refine s_v (pc := 24) rw_105_24 (by omega) (ls0 := [.ref 1]) rfl (Nat.le_of_ble_eq_true rfl) (Nat.le_of_ble_eq_true rfl) rfl (to_rc rfl rfl rfl (g_o hG30 rfl)) rfl ?_
    have j_33 := (CS_f (fun a i z => W_n W28 (tg_148 a i _ z) rfl) (CS_f (tg_34 F5) q5))
    have c_34 : M29.2.1 1 9 = (M.2.1 1 9) := (W_n W28 (fun z => absurd z.1 (by decide)) (F_n F5 (show ¬ (1 = 1 ∧ (9 = 10 ∨ 9 = 11)) by decide) rfl))
    have t_35 : (M29.2.1 1 9).toInt = (M.2.1 1 9).toInt := congrArg Int32.toInt c_34
    refine E_83 hX (by omega) hG30 j_33 (by omega) (t := t) (nn := nn) (a := a) (fun M40 hG37 F36 p_38 p_39 => ?_)
    have F41 := FR.c F31 F36 tg_143
    have c_42 := CS_u p_38 (a := (x_ns t nn a)) (by omega)
    unfold x_C at c_42
    have z_43 := c_42.2
    refine to_an (pc := 27) rw_105_27 rfl ?_
    refine tt_gI (pc := 28) rw_105_28 (g_o hG37 rfl) (v := (M40.2.1 1 7)) rfl ?_
    refine to_c (pc := 31) rw_105_31 (x := (40 : Int32)) rfl rfl ?_
    refine b_cne (pc := 33) rw_105_33 (A := (M40.2.1 1 7).toInt) (B := 40) rfl rfl (fun h44 => ?_) (fun h44 => ?_)
    · have z_45 : ¬ (x_kind t nn (x_ns t nn a) = 4 ∧ x_val t nn (x_ns t nn a) = 40) := by omega
      clear c_42
      refine to_an (pc := 48) rw_105_48 rfl ?_
      refine to_c (pc := 49) rw_105_49 (x := (40 : Int32)) rfl rfl ?_
      refine s_v (pc := 51) rw_105_51 (by omega) (ls0 := [.ref 1, .int (40 : Int32)]) rfl (Nat.le_of_ble_eq_true rfl) (Nat.le_of_ble_eq_true rfl) rfl (to_rc rfl rfl rfl (g_o hG37 rfl)) rfl ?_
      have k_46 : (40 : Int32).toInt = 40 := rfl
      have c_47 : M40.2.1 1 10 = (M15.2.1 1 10) := (F_n F36 (show ¬ (1 = 1 ∧ 6 ≤ 10 ∧ 10 ≤ 9) by decide) (W_n W28 (fun z => absurd z.1 (by decide)) rfl))
      have t_48 : (M40.2.1 1 10).toInt = (M15.2.1 1 10).toInt := congrArg Int32.toInt c_47
      have c_49 : M40.2.1 1 11 = (M15.2.1 1 11) := (F_n F36 (show ¬ (1 = 1 ∧ 6 ≤ 11 ∧ 11 ≤ 9) by decide) (W_n W28 (fun z => absurd z.1 (by decide)) rfl))
      have t_50 : (M40.2.1 1 11).toInt = (M15.2.1 1 11).toInt := congrArg Int32.toInt c_49
      refine E_90s hX (by omega) hG37 p_38 (by omega) (by omega) (c := (40 : Int32)) (t := t) (nn := nn) (a := (x_ns t nn a)) (fun r51 M61 hG53 F52 p_54 p_55 p_56 p_57 p_58 p_59 p_60 => ?_)
      have F62 := FR.c F41 F52 tg_144
      rcases (show r51.toInt = 0 ∨ r51.toInt = 1 by omega) with h63 | h63
      · skip
        have p_64 := p_58 (by omega)
        have p_65 := p_59 (by omega)
        clear p_57 p_58 p_59 p_60
        refine b_ieq_t (pc := 54) rw_105_54 (A := r51.toInt) rfl (by omega) ?_
        refine to_c (pc := 84) rw_105_84 (x := (0 : Int32)) rfl rfl ?_
        refine s_r1 (pc := 85) rw_105_85 (A := 0) rfl (by decide) ?_
        have c_66 : M61.2.1 28 7 = (M.2.1 28 7) := (F_n F52 (show ¬ (28 = 1 ∧ 6 ≤ 7 ∧ 7 ≤ 11) by decide) (F_n F36 (show ¬ (28 = 1 ∧ 6 ≤ 7 ∧ 7 ≤ 9) by decide) (W_n W28 (fun z => absurd z.1 (by decide)) (F_n F5 (show ¬ (28 = 1 ∧ (7 = 10 ∨ 7 = 11)) by decide) rfl))))
        have t_67 : (M61.2.1 28 7).toInt = (M.2.1 28 7).toInt := congrArg Int32.toInt c_66
        exact h (0 : Int32) M61 hG53 F62 (by decide) (by decide) p_56 (by omega) (fun z => by exfalso; omega) (fun _ => winl (by omega) (by omega) (ag_3 (by omega) (by omega) (by omega))) (by omega)
      · skip
        have p_68 := p_57 (by omega)
        have p_69 := p_60 (by omega)
        clear p_57 p_58 p_59 p_60
        have z_70 : x_wag t nn o.toInt a (fun tm => x_ww t nn sg 0 (n9 + 1) (n9 :: op) (x_kt A9 n9 tm)) = x_ww t nn sg 0 (n9 + 1) (n9 :: op) (x_kt A9 n9 (x_val t nn a)) (x_ns t nn (x_ns t nn a)) := ag_y (by omega) (by omega) (by omega) (by omega)
        refine b_ieq_f (pc := 54) rw_105_54 (A := r51.toInt) rfl (by omega) ?_
        refine to_an (pc := 57) rw_105_57 rfl ?_
        refine to_an (pc := 58) rw_105_58 rfl ?_
        refine to_an (pc := 59) rw_105_59 rfl ?_
        refine to_an (pc := 60) rw_105_60 rfl ?_
        refine to_i (pc := 61) rw_105_61 rfl ?_
        refine to_c (pc := 63) rw_105_63 (x := (1 : Int32)) rfl rfl ?_
        refine s_add (pc := 64) rw_105_64 (A := o.toInt) (B := 1) rfl rfl (by omega) (fun v71 e72 => ?_)
        refine s_v (pc := 65) rw_105_65 (by omega) (ls0 := [.ref 28, .ref 1, .ref p, .ref 11, .int v71, .null]) rfl (Nat.le_of_ble_eq_true rfl) (Nat.le_of_ble_eq_true rfl) rfl (to_rc rfl rfl rfl (g_o hG53 rfl)) rfl ?_
        have j_73 := (PLs_f (fun a i z => F_n F52 (show ¬ (a = 1 ∧ 6 ≤ i ∧ i ≤ 11) by omega) rfl) (PLs_f (fun a i z => F_n F36 (show ¬ (a = 1 ∧ 6 ≤ i ∧ i ≤ 9) by omega) rfl) (PLs_f (fun a i z => W_n W28 (by /-r34-/ omega) rfl) (PLs_f (fun a i z => F_n F5 (show ¬ (a = 1 ∧ (i = 10 ∨ i = 11)) by omega) rfl) q7))))
        have z_74 : (M61.2.1 34 n9.toNat).toInt = x_val t nn a := by rw [show n9.toNat = (s.toInt).toNat by omega, show M61.2.1 34 (s.toInt).toNat = (M.2.1 1 8) from (F_n F52 (show ¬ (34 = 1 ∧ 6 ≤ (s.toInt).toNat ∧ (s.toInt).toNat ≤ 11) by omega) (F_n F36 (show ¬ (34 = 1 ∧ 6 ≤ (s.toInt).toNat ∧ (s.toInt).toNat ≤ 9) by omega) (W_e W28)))]; omega
        have z_75 : (M61.2.1 29 n9.toNat).toInt = x_kw 2 := (congrArg Int32.toInt (show M61.2.1 29 n9.toNat = M.2.1 29 n9.toNat from (F_n F52 (show ¬ (29 = 1 ∧ 6 ≤ n9.toNat ∧ n9.toNat ≤ 11) by omega) (F_n F36 (show ¬ (29 = 1 ∧ 6 ≤ n9.toNat ∧ n9.toNat ≤ 9) by omega) (W_n W28 (by omega) (F_n F5 (show ¬ (29 = 1 ∧ (n9.toNat = 10 ∨ n9.toNat = 11)) by omega) rfl)))))).trans q15
        have c_76 : M61.2.1 28 7 = (M.2.1 28 7) := (F_n F52 (show ¬ (28 = 1 ∧ 6 ≤ 7 ∧ 7 ≤ 11) by decide) (F_n F36 (show ¬ (28 = 1 ∧ 6 ≤ 7 ∧ 7 ≤ 9) by decide) (W_n W28 (fun z => absurd z.1 (by decide)) (F_n F5 (show ¬ (28 = 1 ∧ (7 = 10 ∨ 7 = 11)) by decide) rfl))))
        have t_77 : (M61.2.1 28 7).toInt = (M.2.1 28 7).toInt := congrArg Int32.toInt c_76
        refine hr X _ _ _ p v71 t nn (x_ns t nn (x_ns t nn a)) sg (n9 + 1) (n9 :: op) (x_kt A9 n9 (x_val t nn a)) hX (by omega) hG53 hp (by omega) (by omega) p_56 (by omega) j_73 (by omega) (by omega) (WKc_t (by omega) (WKc_f (fun a i z => (F_n F52 (tg_149 a i z) (F_n F36 (tg_150 a i z) rfl))) z_32) z_75 z_74) (by rw [List.length_cons]; omega) (fun m hm => by rcases List.mem_cons.mp hm with y | y; omega; have := q12 m y; omega) (by omega) (by omega) (fun r78 M88 hG80 F79 p_81 p_82 p_83 p_84 p_85 p_86 p_87 => ?_)
        have F89 := FR.c F62 F79 tg_145
        have b_90 := g_b hG80 (a := 28) (i := 7) (lo := 0) (hi := 40) rfl rfl
        rcases (show r78.toInt = 0 ∨ r78.toInt = 1 by omega) with h91 | h91
        · skip
          have p_92 := p_86 (by omega)
          clear p_84 p_85 p_86 p_87
          have z_93 := z_70.trans p_92
          refine b_ieq_t (pc := 68) rw_105_68 (A := r78.toInt) rfl (by omega) ?_
          refine to_c (pc := 84) rw_105_84 (x := (0 : Int32)) rfl rfl ?_
          refine s_r1 (pc := 85) rw_105_85 (A := 0) rfl (by decide) ?_
          exact h (0 : Int32) M88 hG80 F89 (by decide) (by decide) p_83 (by omega) (fun z => by exfalso; omega) (fun _ => winl (by omega) (by omega) z_93) (by omega)
        · skip
          have p_94 := p_84 (by omega)
          have p_95 := p_85 (by omega)
          have p_96 := p_87 (by omega)
          clear p_84 p_85 p_86 p_87
          have z_97 := WQ_e z_70 p_95.1
          have c_98 := CS_u p_83 (a := (M88.2.1 1 9).toInt) (by omega)
          unfold x_C at c_98
          have z_99 := p_95.2
          refine b_ieq_f (pc := 68) rw_105_68 (A := r78.toInt) rfl (by omega) ?_
          refine to_an (pc := 71) rw_105_71 rfl ?_
          refine to_c (pc := 72) rw_105_72 (x := (41 : Int32)) rfl rfl ?_
          refine s_v (pc := 74) rw_105_74 (by omega) (ls0 := [.ref 1, .int (41 : Int32)]) rfl (Nat.le_of_ble_eq_true rfl) (Nat.le_of_ble_eq_true rfl) rfl (to_rc rfl rfl rfl (g_o hG80 rfl)) rfl ?_
          have k_100 : (41 : Int32).toInt = 41 := rfl
          refine E_90s hX (by omega) hG80 p_83 (by omega) (by omega) (c := (41 : Int32)) (t := t) (nn := nn) (a := (M88.2.1 1 9).toInt) (fun r101 M111 hG103 F102 p_104 p_105 p_106 p_107 p_108 p_109 p_110 => ?_)
          have F112 := FR.c F89 F102 tg_144
          rcases (show r101.toInt = 0 ∨ r101.toInt = 1 by omega) with h113 | h113
          · skip
            have p_114 := p_108 (by omega)
            have p_115 := p_109 (by omega)
            clear p_107 p_108 p_109 p_110
            have z_116 := WC_x z_97 (by omega) (by omega) (by omega) (by omega)
            refine b_ieq_t (pc := 77) rw_105_77 (A := r101.toInt) rfl (by omega) ?_
            refine to_c (pc := 84) rw_105_84 (x := (0 : Int32)) rfl rfl ?_
            refine s_r1 (pc := 85) rw_105_85 (A := 0) rfl (by decide) ?_
            have c_117 : M111.2.1 28 7 = (M88.2.1 28 7) := (F_n F102 (show ¬ (28 = 1 ∧ 6 ≤ 7 ∧ 7 ≤ 11) by decide) rfl)
            have t_118 : (M111.2.1 28 7).toInt = (M88.2.1 28 7).toInt := congrArg Int32.toInt c_117
            exact h (0 : Int32) M111 hG103 F112 (by decide) (by decide) p_106 (by omega) (fun z => by exfalso; omega) (fun _ => winl (by omega) (by omega) z_116) (by omega)
          · skip
            have p_119 := p_107 (by omega)
            have p_120 := p_110 (by omega)
            clear p_107 p_108 p_109 p_110
            refine b_ieq_f (pc := 77) rw_105_77 (A := r101.toInt) rfl (by omega) ?_
            refine to_c (pc := 80) rw_105_80 (x := (1 : Int32)) rfl rfl ?_
            refine to_go (pc := 81) rw_105_81 ?_
            refine s_r1 (pc := 85) rw_105_85 (A := 1) rfl (by decide) ?_
            have k_121 : (1 : Int32).toInt = 1 := rfl
            have c_122 : M111.2.1 28 7 = (M88.2.1 28 7) := (F_n F102 (show ¬ (28 = 1 ∧ 6 ≤ 7 ∧ 7 ≤ 11) by decide) rfl)
            have t_123 : (M111.2.1 28 7).toInt = (M88.2.1 28 7).toInt := congrArg Int32.toInt c_122
            exact h (1 : Int32) M111 hG103 F112 (by decide) (by decide) p_106 (by omega) (fun _ => WA_i (tm := x_val t nn a) (by omega) (by omega) (by omega) (by omega) (WQ_o (by omega) z_97) (by omega) (by omega) (by omega) (fun a i z => (F_n F102 (show ¬ (a = 1 ∧ 6 ≤ i ∧ i ≤ 11) by omega) rfl)) (by omega)) (fun z => by exfalso; omega) (by omega)
    · have z_124 : x_kind t nn (x_ns t nn a) = 4 ∧ x_val t nn (x_ns t nn a) = 40 := by omega
      clear c_42
      refine to_i (pc := 36) rw_105_36 rfl ?_
      refine to_c (pc := 38) rw_105_38 (x := (5 : Int32)) rfl rfl ?_
      refine b_clt (pc := 39) rw_105_39 (A := o.toInt) (B := 5) rfl rfl (fun h125 => ?_) (fun h125 => ?_)
      · refine to_an (pc := 48) rw_105_48 rfl ?_
        refine to_c (pc := 49) rw_105_49 (x := (40 : Int32)) rfl rfl ?_
        refine s_v (pc := 51) rw_105_51 (by omega) (ls0 := [.ref 1, .int (40 : Int32)]) rfl (Nat.le_of_ble_eq_true rfl) (Nat.le_of_ble_eq_true rfl) rfl (to_rc rfl rfl rfl (g_o hG37 rfl)) rfl ?_
        have k_126 : (40 : Int32).toInt = 40 := rfl
        have c_127 : M40.2.1 1 10 = (M15.2.1 1 10) := (F_n F36 (show ¬ (1 = 1 ∧ 6 ≤ 10 ∧ 10 ≤ 9) by decide) (W_n W28 (fun z => absurd z.1 (by decide)) rfl))
        have t_128 : (M40.2.1 1 10).toInt = (M15.2.1 1 10).toInt := congrArg Int32.toInt c_127
        have c_129 : M40.2.1 1 11 = (M15.2.1 1 11) := (F_n F36 (show ¬ (1 = 1 ∧ 6 ≤ 11 ∧ 11 ≤ 9) by decide) (W_n W28 (fun z => absurd z.1 (by decide)) rfl))
        have t_130 : (M40.2.1 1 11).toInt = (M15.2.1 1 11).toInt := congrArg Int32.toInt c_129
        refine E_90s hX (by omega) hG37 p_38 (by omega) (by omega) (c := (40 : Int32)) (t := t) (nn := nn) (a := (x_ns t nn a)) (fun r131 M141 hG133 F132 p_134 p_135 p_136 p_137 p_138 p_139 p_140 => ?_)
        have F142 := FR.c F41 F132 tg_144
        rcases (show r131.toInt = 0 ∨ r131.toInt = 1 by omega) with h143 | h143
        · skip
          have p_144 := p_138 (by omega)
          have p_145 := p_139 (by omega)
          clear p_137 p_138 p_139 p_140
          refine b_ieq_t (pc := 54) rw_105_54 (A := r131.toInt) rfl (by omega) ?_
          refine to_c (pc := 84) rw_105_84 (x := (0 : Int32)) rfl rfl ?_
          refine s_r1 (pc := 85) rw_105_85 (A := 0) rfl (by decide) ?_
          have c_146 : M141.2.1 28 7 = (M.2.1 28 7) := (F_n F132 (show ¬ (28 = 1 ∧ 6 ≤ 7 ∧ 7 ≤ 11) by decide) (F_n F36 (show ¬ (28 = 1 ∧ 6 ≤ 7 ∧ 7 ≤ 9) by decide) (W_n W28 (fun z => absurd z.1 (by decide)) (F_n F5 (show ¬ (28 = 1 ∧ (7 = 10 ∨ 7 = 11)) by decide) rfl))))
          have t_147 : (M141.2.1 28 7).toInt = (M.2.1 28 7).toInt := congrArg Int32.toInt c_146
          exact h (0 : Int32) M141 hG133 F142 (by decide) (by decide) p_136 (by omega) (fun z => by exfalso; omega) (fun _ => winl (by omega) (by omega) (ag_3 (by omega) (by omega) (by omega))) (by omega)
        · skip
          have p_148 := p_137 (by omega)
          have p_149 := p_140 (by omega)
          clear p_137 p_138 p_139 p_140
          have z_150 : x_wag t nn o.toInt a (fun tm => x_ww t nn sg 0 (n9 + 1) (n9 :: op) (x_kt A9 n9 tm)) = x_ww t nn sg 0 (n9 + 1) (n9 :: op) (x_kt A9 n9 (x_val t nn a)) (x_ns t nn (x_ns t nn a)) := ag_y (by omega) (by omega) (by omega) (by omega)
          refine b_ieq_f (pc := 54) rw_105_54 (A := r131.toInt) rfl (by omega) ?_
          refine to_an (pc := 57) rw_105_57 rfl ?_
          refine to_an (pc := 58) rw_105_58 rfl ?_
          refine to_an (pc := 59) rw_105_59 rfl ?_
          refine to_an (pc := 60) rw_105_60 rfl ?_
          refine to_i (pc := 61) rw_105_61 rfl ?_
          refine to_c (pc := 63) rw_105_63 (x := (1 : Int32)) rfl rfl ?_
          refine s_add (pc := 64) rw_105_64 (A := o.toInt) (B := 1) rfl rfl (by omega) (fun v151 e152 => ?_)
          refine s_v (pc := 65) rw_105_65 (by omega) (ls0 := [.ref 28, .ref 1, .ref p, .ref 11, .int v151, .null]) rfl (Nat.le_of_ble_eq_true rfl) (Nat.le_of_ble_eq_true rfl) rfl (to_rc rfl rfl rfl (g_o hG133 rfl)) rfl ?_
          have j_153 := (PLs_f (fun a i z => F_n F132 (show ¬ (a = 1 ∧ 6 ≤ i ∧ i ≤ 11) by omega) rfl) (PLs_f (fun a i z => F_n F36 (show ¬ (a = 1 ∧ 6 ≤ i ∧ i ≤ 9) by omega) rfl) (PLs_f (fun a i z => W_n W28 (by /-r34-/ omega) rfl) (PLs_f (fun a i z => F_n F5 (show ¬ (a = 1 ∧ (i = 10 ∨ i = 11)) by omega) rfl) q7))))
          have z_154 : (M141.2.1 34 n9.toNat).toInt = x_val t nn a := by rw [show n9.toNat = (s.toInt).toNat by omega, show M141.2.1 34 (s.toInt).toNat = (M.2.1 1 8) from (F_n F132 (show ¬ (34 = 1 ∧ 6 ≤ (s.toInt).toNat ∧ (s.toInt).toNat ≤ 11) by omega) (F_n F36 (show ¬ (34 = 1 ∧ 6 ≤ (s.toInt).toNat ∧ (s.toInt).toNat ≤ 9) by omega) (W_e W28)))]; omega
          have z_155 : (M141.2.1 29 n9.toNat).toInt = x_kw 2 := (congrArg Int32.toInt (show M141.2.1 29 n9.toNat = M.2.1 29 n9.toNat from (F_n F132 (show ¬ (29 = 1 ∧ 6 ≤ n9.toNat ∧ n9.toNat ≤ 11) by omega) (F_n F36 (show ¬ (29 = 1 ∧ 6 ≤ n9.toNat ∧ n9.toNat ≤ 9) by omega) (W_n W28 (by omega) (F_n F5 (show ¬ (29 = 1 ∧ (n9.toNat = 10 ∨ n9.toNat = 11)) by omega) rfl)))))).trans q15
          have c_156 : M141.2.1 28 7 = (M.2.1 28 7) := (F_n F132 (show ¬ (28 = 1 ∧ 6 ≤ 7 ∧ 7 ≤ 11) by decide) (F_n F36 (show ¬ (28 = 1 ∧ 6 ≤ 7 ∧ 7 ≤ 9) by decide) (W_n W28 (fun z => absurd z.1 (by decide)) (F_n F5 (show ¬ (28 = 1 ∧ (7 = 10 ∨ 7 = 11)) by decide) rfl))))
          have t_157 : (M141.2.1 28 7).toInt = (M.2.1 28 7).toInt := congrArg Int32.toInt c_156
          refine hr X _ _ _ p v151 t nn (x_ns t nn (x_ns t nn a)) sg (n9 + 1) (n9 :: op) (x_kt A9 n9 (x_val t nn a)) hX (by omega) hG133 hp (by omega) (by omega) p_136 (by omega) j_153 (by omega) (by omega) (WKc_t (by omega) (WKc_f (fun a i z => (F_n F132 (tg_149 a i z) (F_n F36 (tg_150 a i z) rfl))) z_32) z_155 z_154) (by rw [List.length_cons]; omega) (fun m hm => by rcases List.mem_cons.mp hm with y | y; omega; have := q12 m y; omega) (by omega) (by omega) (fun r158 M168 hG160 F159 p_161 p_162 p_163 p_164 p_165 p_166 p_167 => ?_)
          have F169 := FR.c F142 F159 tg_145
          have b_170 := g_b hG160 (a := 28) (i := 7) (lo := 0) (hi := 40) rfl rfl
          rcases (show r158.toInt = 0 ∨ r158.toInt = 1 by omega) with h171 | h171
          · skip
            have p_172 := p_166 (by omega)
            clear p_164 p_165 p_166 p_167
            have z_173 := z_150.trans p_172
            refine b_ieq_t (pc := 68) rw_105_68 (A := r158.toInt) rfl (by omega) ?_
            refine to_c (pc := 84) rw_105_84 (x := (0 : Int32)) rfl rfl ?_
            refine s_r1 (pc := 85) rw_105_85 (A := 0) rfl (by decide) ?_
            exact h (0 : Int32) M168 hG160 F169 (by decide) (by decide) p_163 (by omega) (fun z => by exfalso; omega) (fun _ => winl (by omega) (by omega) z_173) (by omega)
          · skip
            have p_174 := p_164 (by omega)
            have p_175 := p_165 (by omega)
            have p_176 := p_167 (by omega)
            clear p_164 p_165 p_166 p_167
            have z_177 := WQ_e z_150 p_175.1
            have c_178 := CS_u p_163 (a := (M168.2.1 1 9).toInt) (by omega)
            unfold x_C at c_178
            have z_179 := p_175.2
            refine b_ieq_f (pc := 68) rw_105_68 (A := r158.toInt) rfl (by omega) ?_
            refine to_an (pc := 71) rw_105_71 rfl ?_
            refine to_c (pc := 72) rw_105_72 (x := (41 : Int32)) rfl rfl ?_
            refine s_v (pc := 74) rw_105_74 (by omega) (ls0 := [.ref 1, .int (41 : Int32)]) rfl (Nat.le_of_ble_eq_true rfl) (Nat.le_of_ble_eq_true rfl) rfl (to_rc rfl rfl rfl (g_o hG160 rfl)) rfl ?_
            have k_180 : (41 : Int32).toInt = 41 := rfl
            refine E_90s hX (by omega) hG160 p_163 (by omega) (by omega) (c := (41 : Int32)) (t := t) (nn := nn) (a := (M168.2.1 1 9).toInt) (fun r181 M191 hG183 F182 p_184 p_185 p_186 p_187 p_188 p_189 p_190 => ?_)
            have F192 := FR.c F169 F182 tg_144
            rcases (show r181.toInt = 0 ∨ r181.toInt = 1 by omega) with h193 | h193
            · skip
              have p_194 := p_188 (by omega)
              have p_195 := p_189 (by omega)
              clear p_187 p_188 p_189 p_190
              have z_196 := WC_x z_177 (by omega) (by omega) (by omega) (by omega)
              refine b_ieq_t (pc := 77) rw_105_77 (A := r181.toInt) rfl (by omega) ?_
              refine to_c (pc := 84) rw_105_84 (x := (0 : Int32)) rfl rfl ?_
              refine s_r1 (pc := 85) rw_105_85 (A := 0) rfl (by decide) ?_
              have c_197 : M191.2.1 28 7 = (M168.2.1 28 7) := (F_n F182 (show ¬ (28 = 1 ∧ 6 ≤ 7 ∧ 7 ≤ 11) by decide) rfl)
              have t_198 : (M191.2.1 28 7).toInt = (M168.2.1 28 7).toInt := congrArg Int32.toInt c_197
              exact h (0 : Int32) M191 hG183 F192 (by decide) (by decide) p_186 (by omega) (fun z => by exfalso; omega) (fun _ => winl (by omega) (by omega) z_196) (by omega)
            · skip
              have p_199 := p_187 (by omega)
              have p_200 := p_190 (by omega)
              clear p_187 p_188 p_189 p_190
              refine b_ieq_f (pc := 77) rw_105_77 (A := r181.toInt) rfl (by omega) ?_
              refine to_c (pc := 80) rw_105_80 (x := (1 : Int32)) rfl rfl ?_
              refine to_go (pc := 81) rw_105_81 ?_
              refine s_r1 (pc := 85) rw_105_85 (A := 1) rfl (by decide) ?_
              have k_201 : (1 : Int32).toInt = 1 := rfl
              have c_202 : M191.2.1 28 7 = (M168.2.1 28 7) := (F_n F182 (show ¬ (28 = 1 ∧ 6 ≤ 7 ∧ 7 ≤ 11) by decide) rfl)
              have t_203 : (M191.2.1 28 7).toInt = (M168.2.1 28 7).toInt := congrArg Int32.toInt c_202
              exact h (1 : Int32) M191 hG183 F192 (by decide) (by decide) p_186 (by omega) (fun _ => WA_i (tm := x_val t nn a) (by omega) (by omega) (by omega) (by omega) (WQ_o (by omega) z_177) (by omega) (by omega) (by omega) (fun a i z => (F_n F182 (show ¬ (a = 1 ∧ 6 ≤ i ∧ i ≤ 11) by omega) rfl)) (by omega)) (fun z => by exfalso; omega) (by omega)
      · refine to_an (pc := 42) rw_105_42 rfl ?_
        refine to_c (pc := 43) rw_105_43 (x := (2 : Int32)) rfl rfl ?_
        refine s_v (pc := 44) rw_105_44 (by omega) (ls0 := [.ref 1, .int (2 : Int32)]) rfl (Nat.le_of_ble_eq_true rfl) (Nat.le_of_ble_eq_true rfl) rfl (to_rc rfl rfl rfl (g_o hG37 rfl)) rfl ?_
        refine to_an (pc := 0) rw_84_0 rfl ?_
        refine to_in (pc := 1) rw_84_1 rfl ?_
        refine s_pI (pc := 2) rw_84_2 hG37 rfl (fun M205 W204 => ?_)
        have hG206 := g_wf hG37 W204 rfl rfl (by decide)
        have F207 := FR.w F41 W204 (show 1 = 1 ∧ 6 ≤ 10 ∧ 10 ≤ 11 ∨ 28 ≤ 1 ∧ 1 ≤ 35 by decide)
        refine to_an (pc := 5) rw_84_5 rfl ?_
        refine to_an (pc := 6) rw_84_6 rfl ?_
        have c_208 : M205.2.1 1 9 = (M40.2.1 1 9) := (W_n W204 (by decide) rfl)
        refine tt_gI (pc := 7) rw_84_7 (g_o hG206 rfl) (v := (M40.2.1 1 9)) c_208 ?_
        refine s_pI (pc := 10) rw_84_10 hG206 rfl (fun M210 W209 => ?_)
        have hG211 := g_wf hG206 W209 rfl rfl (by decide)
        have F212 := FR.w F207 W209 (show 1 = 1 ∧ 6 ≤ 11 ∧ 11 ≤ 11 ∨ 28 ≤ 1 ∧ 1 ≤ 35 by decide)
        refine to_c (pc := 13) rw_84_13 (x := (0 : Int32)) rfl rfl ?_
        refine s_r1 (pc := 14) rw_84_14 (A := 0) rfl (by decide) ?_
        refine s_r1 (pc := 47) rw_105_47 (A := 0) rfl (by decide) ?_
        have j_213 := (CS_f (fun a i z => W_n W209 (tg_32 a i z) rfl) (CS_f (fun a i z => W_n W204 (tg_33 a i z) rfl) p_38))
        have c_214 : M210.2.1 28 7 = (M.2.1 28 7) := (W_n W209 (by decide) (W_n W204 (by decide) (F_n F36 (show ¬ (28 = 1 ∧ 6 ≤ 7 ∧ 7 ≤ 9) by decide) (W_n W28 (fun z => absurd z.1 (by decide)) (F_n F5 (show ¬ (28 = 1 ∧ (7 = 10 ∨ 7 = 11)) by decide) rfl)))))
        have t_215 : (M210.2.1 28 7).toInt = (M.2.1 28 7).toInt := congrArg Int32.toInt c_214
        have c_216 : M210.2.1 1 10 = (2 : Int32) := (W_n W209 (by decide) (W_e W204))
        have k_217 : (2 : Int32).toInt = 2 := rfl
        have t_218 : (M210.2.1 1 10).toInt = (2 : Int32).toInt := congrArg Int32.toInt c_216
        have c_219 : M210.2.1 1 11 = (M40.2.1 1 9) := (W_e W209)
        have t_220 : (M210.2.1 1 11).toInt = (M40.2.1 1 9).toInt := congrArg Int32.toInt c_219
        exact h (0 : Int32) M210 hG211 F212 (by decide) (by decide) j_213 (by omega) (fun z => by exfalso; omega) (fun _ => winl (by omega) (by omega) (ag_4 (by omega) (by omega) (by omega) (by omega))) (by omega)
set_option maxRecDepth 4000 in
set_option maxHeartbeats 0 in
theorem E_100 {X : mm_X} {d : Nat} {M : mm_M} {Q : Option Value → mm_M → Prop} {p : Nat} {o : Int32} {t : Nat → Int} {nn : Int} {a : Int} {sg : x_S} {n9 : Int} {op : List Int} {A9 : x_A} (hX : g_X X) (hd : 4 + 3 * (5 - o.toInt) ≤ (d : Int)) (hG : g_G M) (hp : p = 49 ∨ p = 58) (q1 : 0 ≤ o.toInt) (q2 : o.toInt ≤ 5) (q3 : CS M t nn) (q4 : (M.2.1 1 9).toInt = a) (q5 : PLs M p sg) (q6 : nn ≤ 500) (q7 : 0 ≤ n9) (q8 : WKc M A9 n9 op) (q9 : (op.length : Int) = o.toInt) (q10 : ∀ m ∈ op, m < n9) (q11 : (M.2.1 28 7).toInt = n9) (q12 : x_kind t nn a = 1) (hr : RE_99 (5 - o.toInt)) (h : ∀ (r : Int32) (M1 : mm_M), g_G M1 → FR md_w100 M M1 → (0 ≤ r.toInt) → (r.toInt ≤ 1) → CS M1 t nn → (r.toInt = 1 → n9 < (M1.2.1 28 7).toInt) → ((r.toInt = 1 → WQ t nn sg (x_ww t nn sg 0 n9 op A9 a) M1 A9 n9 op o.toInt)) → ((r.toInt = 0 → x_ww t nn sg 0 n9 op A9 a = Sum.inl ((M1.2.1 1 10).toInt, (M1.2.1 1 11).toInt))) → (r.toInt = 1 → (M1.2.1 1 10).toInt = (M.2.1 1 10).toInt ∧ (M1.2.1 1 11).toInt = (M.2.1 1 11).toInt) → Q (some (.int r)) M1) : mm_T X d 100 0 [.ref 28, .ref 1, .ref p, .ref 11, .int o, .null, .null, .null] [] M Q := by
  have F0 : FR md_w100 M M := FR.rf
  have b_1 := g_b hG (a := 28) (i := 7) (lo := 0) (hi := 40) rfl rfl
  have c_2 := CS_u q3 (a := a) (by omega)
  unfold x_C at c_2
  have z_3 := c_2.2
  have z_4 : (M.2.1 1 8).toInt = x_val t nn a := by omega
  clear c_2
  refine to_an (pc := 0) rw_100_0 rfl ?_
  refine tt_gI (pc := 1) rw_100_1 (g_o hG rfl) (v := (M.2.1 1 8)) rfl ?_
  refine to_is (pc := 4) rw_100_4 (ls2 := [.ref 28, .ref 1, .ref p, .ref 11, .int o, .int (M.2.1 1 8), .null, .null]) rfl rfl ?_
  refine to_i (pc := 6) rw_100_6 rfl ?_
  refine to_c (pc := 8) rw_100_8 (x := (538561536 : Int32)) rfl rfl ?_
  refine b_ceq (pc := 10) rw_100_10 (A := (M.2.1 1 8).toInt) (B := 538561536) rfl rfl (fun h5 => ?_) (fun h5 => ?_)
  · have z_6 : x_kx (x_val t nn a) = 7 := (x_kx_w2 (x_val t nn a)).1.mpr (by omega)
    refine to_an (pc := 33) rw_100_33 rfl ?_
    refine tt_gI (pc := 34) rw_100_34 (g_o hG rfl) (v := (M.2.1 28 7)) rfl ?_
    refine to_c (pc := 37) rw_100_37 (x := (40 : Int32)) rfl rfl ?_
    refine b_clt (pc := 39) rw_100_39 (A := (M.2.1 28 7).toInt) (B := 40) rfl rfl (fun h7 => ?_) (fun h7 => ?_)
    · refine to_an (pc := 48) rw_100_48 rfl ?_
      refine tt_gI (pc := 49) rw_100_49 (g_o hG rfl) (v := (M.2.1 28 7)) rfl ?_
      refine to_is (pc := 52) rw_100_52 (ls2 := [.ref 28, .ref 1, .ref p, .ref 11, .int o, .int (M.2.1 1 8), .int (M.2.1 28 7), .null]) rfl rfl ?_
      refine to_an (pc := 54) rw_100_54 rfl ?_
      refine to_dupr (pc := 55) rw_100_55 ?_
      refine tt_gI (pc := 56) rw_100_56 (g_o hG rfl) (v := (M.2.1 28 7)) rfl ?_
      refine to_c (pc := 59) rw_100_59 (x := (1 : Int32)) rfl rfl ?_
      refine s_add (pc := 60) rw_100_60 (A := (M.2.1 28 7).toInt) (B := 1) rfl rfl (by omega) (fun v8 e9 => ?_)
      refine s_pI (pc := 61) rw_100_61 hG rfl (fun M11 W10 => ?_)
      have hG12 := g_w hG W10 (A := v8.toInt) rfl (lo := 0) (hi := 40) rfl rfl (by omega) (by decide)
      have F13 := FR.w F0 W10 (show 28 = 1 ∧ 6 ≤ 7 ∧ 7 ≤ 11 ∨ 28 ≤ 28 ∧ 28 ≤ 35 by decide)
      refine to_an (pc := 64) rw_100_64 rfl ?_
      refine s_gR (pc := 65) rw_100_65 hG12 rfl (v := 29) rfl ?_
      refine to_i (pc := 68) rw_100_68 rfl ?_
      refine to_i (pc := 70) rw_100_70 rfl ?_
      refine s_ias (pc := 72) rw_100_72 hG12 rfl (n := 40) rfl (A := (M.2.1 28 7).toInt) rfl (by omega) (by omega) (fun M15 W14 => ?_)
      have hG16 := g_wf hG12 W14 rfl rfl (by decide)
      have F17 := FR.w F13 W14 (show 29 = 1 ∧ 6 ≤ ((M.2.1 28 7).toInt).toNat ∧ ((M.2.1 28 7).toInt).toNat ≤ 11 ∨ 28 ≤ 29 ∧ 29 ≤ 35 by omega)
      have z_18 := WKc_w (WKc_f (fun a i z => (W_n W10 (tg_151 a i z) rfl)) q8) W14 (by omega)
      refine to_an (pc := 73) rw_100_73 rfl ?_
      refine s_v (pc := 74) rw_100_74 (by omega) (ls0 := [.ref 1]) rfl (Nat.le_of_ble_eq_true rfl) (Nat.le_of_ble_eq_true rfl) rfl (to_rc rfl rfl rfl (g_o hG16 rfl)) rfl ?_
      have j_19 := (CS_f (fun a i z => W_n W14 (tg_152 a i _ z) rfl) (CS_f (fun a i z => W_n W10 (tg_153 a i z) rfl) q3))
      have c_20 : M15.2.1 1 9 = (M.2.1 1 9) := (W_n W14 (fun z => absurd z.1 (by decide)) (W_n W10 (by decide) rfl))
      have t_21 : (M15.2.1 1 9).toInt = (M.2.1 1 9).toInt := congrArg Int32.toInt c_20
      refine E_83 hX (by omega) hG16 j_19 (by omega) (t := t) (nn := nn) (a := a) (fun M26 hG23 F22 p_24 p_25 => ?_)
      have F27 := FR.c F17 F22 tg_143
      refine to_i (pc := 77) rw_100_77 rfl ?_
      refine to_c (pc := 79) rw_100_79 (x := (538561536 : Int32)) rfl rfl ?_
      refine b_cne_f (pc := 81) rw_100_81 (A := (M.2.1 1 8).toInt) (B := 538561536) rfl rfl (by omega) ?_
      refine to_an (pc := 84) rw_100_84 rfl ?_
      refine to_an (pc := 85) rw_100_85 rfl ?_
      refine to_an (pc := 86) rw_100_86 rfl ?_
      refine to_an (pc := 87) rw_100_87 rfl ?_
      refine to_i (pc := 88) rw_100_88 rfl ?_
      refine s_v (pc := 90) rw_100_90 (by omega) (ls0 := [.ref 28, .ref 1, .ref p, .ref 11, .int (M.2.1 28 7), .null]) rfl (Nat.le_of_ble_eq_true rfl) (Nat.le_of_ble_eq_true rfl) rfl (to_rc rfl rfl rfl (g_o hG23 rfl)) rfl ?_
      have c_28 : M26.2.1 1 10 = (M.2.1 1 10) := (F_n F22 (show ¬ (1 = 1 ∧ 6 ≤ 10 ∧ 10 ≤ 9) by decide) (W_n W14 (fun z => absurd z.1 (by decide)) (W_n W10 (by decide) rfl)))
      have t_29 : (M26.2.1 1 10).toInt = (M.2.1 1 10).toInt := congrArg Int32.toInt c_28
      have c_30 : M26.2.1 1 11 = (M.2.1 1 11) := (F_n F22 (show ¬ (1 = 1 ∧ 6 ≤ 11 ∧ 11 ≤ 9) by decide) (W_n W14 (fun z => absurd z.1 (by decide)) (W_n W10 (by decide) rfl)))
      have t_31 : (M26.2.1 1 11).toInt = (M.2.1 1 11).toInt := congrArg Int32.toInt c_30
      have j_32 := (PLs_f (fun a i z => F_n F22 (show ¬ (a = 1 ∧ 6 ≤ i ∧ i ≤ 9) by omega) rfl) (PLs_f (fun a i z => W_n W14 (by /-r29-/ omega) rfl) (PLs_f (fun a i z => W_n W10 (by /-r28,7-/ omega) rfl) q5)))
      refine E_101 hX (by omega) hG23 hp (by omega) (by omega) p_24 (by omega) j_32 (by omega) (p := p) (s := (M.2.1 28 7)) (t := t) (nn := nn) (a := (x_ns t nn a)) (sg := sg) (n9 := (n9 + 1)) (op := op) (A9 := (x_k1 A9 n9 0)) (fun r33 M42 hG35 F34 p_36 p_37 p_38 p_39 p_40 p_41 => ?_)
      have F43 := FR.c F27 F34 tg_146
      rcases (show r33.toInt = 0 ∨ r33.toInt = 1 by omega) with h44 | h44
      · skip
        have p_45 := p_40 (by omega)
        clear p_39 p_40 p_41
        have z_46 := (w_ps (by omega) (by omega) (by omega) (by omega) (by omega)).trans p_45
        refine to_is (pc := 93) rw_100_93 (ls2 := [.ref 28, .ref 1, .ref p, .ref 11, .int o, .int (M.2.1 1 8), .int (M.2.1 28 7), .int r33]) rfl rfl ?_
        refine to_go (pc := 95) rw_100_95 ?_
        refine to_an (pc := 130) rw_100_130 rfl ?_
        refine s_gR (pc := 131) rw_100_131 hG35 rfl (v := 35) rfl ?_
        refine to_i (pc := 134) rw_100_134 rfl ?_
        refine to_an (pc := 136) rw_100_136 rfl ?_
        have c_47 : M42.2.1 28 7 = v8 := (F_n F34 (show ¬ (28 = 1 ∧ 6 ≤ 7 ∧ 7 ≤ 11 ∨ 30 ≤ 28 ∧ 28 ≤ 33) by decide) (F_n F22 (show ¬ (28 = 1 ∧ 6 ≤ 7 ∧ 7 ≤ 9) by decide) (W_n W14 (fun z => absurd z.1 (by decide)) (W_e W10))))
        refine tt_gI (pc := 137) rw_100_137 (g_o hG35 rfl) (v := v8) c_47 ?_
        refine s_ias (pc := 140) rw_100_140 hG35 rfl (n := 40) rfl (A := (M.2.1 28 7).toInt) rfl (by omega) (by omega) (fun M49 W48 => ?_)
        have hG50 := g_w hG35 W48 (A := v8.toInt) rfl (lo := 0) (hi := 40) rfl rfl (by omega) (by decide)
        have F51 := FR.w F43 W48 (show 35 = 1 ∧ 6 ≤ ((M.2.1 28 7).toInt).toNat ∧ ((M.2.1 28 7).toInt).toNat ≤ 11 ∨ 28 ≤ 35 ∧ 35 ≤ 35 by omega)
        refine to_i (pc := 141) rw_100_141 rfl ?_
        refine s_r1 (pc := 143) rw_100_143 (A := r33.toInt) rfl (by omega) ?_
        have j_52 := (CS_f (fun a i z => W_n W48 (tg_154 a i _ z) rfl) p_38)
        have c_53 : M49.2.1 28 7 = v8 := (W_n W48 (fun z => absurd z.1 (by decide)) c_47)
        have t_54 : (M49.2.1 28 7).toInt = v8.toInt := congrArg Int32.toInt c_53
        have c_55 : M49.2.1 1 10 = (M42.2.1 1 10) := (W_n W48 (fun z => absurd z.1 (by decide)) rfl)
        have t_56 : (M49.2.1 1 10).toInt = (M42.2.1 1 10).toInt := congrArg Int32.toInt c_55
        have c_57 : M49.2.1 1 11 = (M42.2.1 1 11) := (W_n W48 (fun z => absurd z.1 (by decide)) rfl)
        have t_58 : (M49.2.1 1 11).toInt = (M42.2.1 1 11).toInt := congrArg Int32.toInt c_57
        exact h r33 M49 hG50 F51 (by omega) (by omega) j_52 (by omega) (fun z => by exfalso; omega) (fun _ => winl (by omega) (by omega) z_46) (by omega)
      · skip
        have p_59 := p_39 (by omega)
        have p_60 := p_41 (by omega)
        clear p_39 p_40 p_41
        have z_61 := (w_ps (by omega) (by omega) (by omega) (by omega) (by omega)).trans p_59
        refine to_is (pc := 93) rw_100_93 (ls2 := [.ref 28, .ref 1, .ref p, .ref 11, .int o, .int (M.2.1 1 8), .int (M.2.1 28 7), .int r33]) rfl rfl ?_
        refine to_go (pc := 95) rw_100_95 ?_
        refine to_an (pc := 130) rw_100_130 rfl ?_
        refine s_gR (pc := 131) rw_100_131 hG35 rfl (v := 35) rfl ?_
        refine to_i (pc := 134) rw_100_134 rfl ?_
        refine to_an (pc := 136) rw_100_136 rfl ?_
        have c_62 : M42.2.1 28 7 = v8 := (F_n F34 (show ¬ (28 = 1 ∧ 6 ≤ 7 ∧ 7 ≤ 11 ∨ 30 ≤ 28 ∧ 28 ≤ 33) by decide) (F_n F22 (show ¬ (28 = 1 ∧ 6 ≤ 7 ∧ 7 ≤ 9) by decide) (W_n W14 (fun z => absurd z.1 (by decide)) (W_e W10))))
        refine tt_gI (pc := 137) rw_100_137 (g_o hG35 rfl) (v := v8) c_62 ?_
        refine s_ias (pc := 140) rw_100_140 hG35 rfl (n := 40) rfl (A := (M.2.1 28 7).toInt) rfl (by omega) (by omega) (fun M64 W63 => ?_)
        have hG65 := g_w hG35 W63 (A := v8.toInt) rfl (lo := 0) (hi := 40) rfl rfl (by omega) (by decide)
        have F66 := FR.w F43 W63 (show 35 = 1 ∧ 6 ≤ ((M.2.1 28 7).toInt).toNat ∧ ((M.2.1 28 7).toInt).toNat ≤ 11 ∨ 28 ≤ 35 ∧ 35 ≤ 35 by omega)
        refine to_i (pc := 141) rw_100_141 rfl ?_
        refine s_r1 (pc := 143) rw_100_143 (A := r33.toInt) rfl (by omega) ?_
        have j_67 := (CS_f (fun a i z => W_n W63 (tg_154 a i _ z) rfl) p_38)
        have c_68 : M64.2.1 28 7 = v8 := (W_n W63 (fun z => absurd z.1 (by decide)) c_62)
        have t_69 : (M64.2.1 28 7).toInt = v8.toInt := congrArg Int32.toInt c_68
        have t_70 : (M42.2.1 28 7).toInt = v8.toInt := congrArg Int32.toInt c_62
        have c_71 : M64.2.1 1 10 = (M42.2.1 1 10) := (W_n W63 (fun z => absurd z.1 (by decide)) rfl)
        have t_72 : (M64.2.1 1 10).toInt = (M42.2.1 1 10).toInt := congrArg Int32.toInt c_71
        have c_73 : M64.2.1 1 11 = (M42.2.1 1 11) := (W_n W63 (fun z => absurd z.1 (by decide)) rfl)
        have t_74 : (M64.2.1 1 11).toInt = (M42.2.1 1 11).toInt := congrArg Int32.toInt c_73
        exact h r33 M64 hG65 F66 (by omega) (by omega) j_67 (by omega) (fun _ => WQ_p (k := 0) (by decide) (by omega) (WKc_f (fun a i z => (F_n F34 (tg_155 a i z) (F_n F22 (tg_150 a i z) rfl))) z_18) q10 (by rw [show n9.toNat = ((M.2.1 28 7).toInt).toNat by omega, show M42.2.1 29 ((M.2.1 28 7).toInt).toNat = (M.2.1 1 8) from (F_n F34 (show ¬ (29 = 1 ∧ 6 ≤ ((M.2.1 28 7).toInt).toNat ∧ ((M.2.1 28 7).toInt).toNat ≤ 11 ∨ 30 ≤ 29 ∧ 29 ≤ 33) by omega) (F_n F22 (show ¬ (29 = 1 ∧ 6 ≤ ((M.2.1 28 7).toInt).toNat ∧ ((M.2.1 28 7).toInt).toNat ≤ 9) by omega) (W_e W14)))]; exact (show (M.2.1 1 8).toInt = 538561536 by omega)) (by omega) (W9_i (by omega) W63) (by omega) z_61) (fun z => by exfalso; omega) (by omega)
    · refine to_an (pc := 42) rw_100_42 rfl ?_
      refine to_c (pc := 43) rw_100_43 (x := (2 : Int32)) rfl rfl ?_
      refine s_v (pc := 44) rw_100_44 (by omega) (ls0 := [.ref 1, .int (2 : Int32)]) rfl (Nat.le_of_ble_eq_true rfl) (Nat.le_of_ble_eq_true rfl) rfl (to_rc rfl rfl rfl (g_o hG rfl)) rfl ?_
      refine to_an (pc := 0) rw_84_0 rfl ?_
      refine to_in (pc := 1) rw_84_1 rfl ?_
      refine s_pI (pc := 2) rw_84_2 hG rfl (fun M76 W75 => ?_)
      have hG77 := g_wf hG W75 rfl rfl (by decide)
      have F78 := FR.w F0 W75 (show 1 = 1 ∧ 6 ≤ 10 ∧ 10 ≤ 11 ∨ 28 ≤ 1 ∧ 1 ≤ 35 by decide)
      refine to_an (pc := 5) rw_84_5 rfl ?_
      refine to_an (pc := 6) rw_84_6 rfl ?_
      have c_79 : M76.2.1 1 9 = (M.2.1 1 9) := (W_n W75 (by decide) rfl)
      refine tt_gI (pc := 7) rw_84_7 (g_o hG77 rfl) (v := (M.2.1 1 9)) c_79 ?_
      refine s_pI (pc := 10) rw_84_10 hG77 rfl (fun M81 W80 => ?_)
      have hG82 := g_wf hG77 W80 rfl rfl (by decide)
      have F83 := FR.w F78 W80 (show 1 = 1 ∧ 6 ≤ 11 ∧ 11 ≤ 11 ∨ 28 ≤ 1 ∧ 1 ≤ 35 by decide)
      refine to_c (pc := 13) rw_84_13 (x := (0 : Int32)) rfl rfl ?_
      refine s_r1 (pc := 14) rw_84_14 (A := 0) rfl (by decide) ?_
      refine s_r1 (pc := 47) rw_100_47 (A := 0) rfl (by decide) ?_
      have k_84 : (0 : Int32).toInt = 0 := rfl
      have j_85 := (CS_f (fun a i z => W_n W80 (tg_32 a i z) rfl) (CS_f (fun a i z => W_n W75 (tg_33 a i z) rfl) q3))
      have c_86 : M81.2.1 28 7 = (M.2.1 28 7) := (W_n W80 (by decide) (W_n W75 (by decide) rfl))
      have t_87 : (M81.2.1 28 7).toInt = (M.2.1 28 7).toInt := congrArg Int32.toInt c_86
      have c_88 : M81.2.1 1 10 = (2 : Int32) := (W_n W80 (by decide) (W_e W75))
      have k_89 : (2 : Int32).toInt = 2 := rfl
      have t_90 : (M81.2.1 1 10).toInt = (2 : Int32).toInt := congrArg Int32.toInt c_88
      have c_91 : M81.2.1 1 11 = (M.2.1 1 9) := (W_e W80)
      have t_92 : (M81.2.1 1 11).toInt = (M.2.1 1 9).toInt := congrArg Int32.toInt c_91
      exact h (0 : Int32) M81 hG82 F83 (by decide) (by decide) j_85 (by omega) (fun z => by exfalso; omega) (fun _ => winl (by omega) (by omega) (w_40 (by omega) (by omega) (by omega) (by omega) (by omega))) (by omega)
  · refine to_i (pc := 13) rw_100_13 rfl ?_
    refine to_c (pc := 15) rw_100_15 (x := (351582208 : Int32)) rfl rfl ?_
    refine b_ceq (pc := 17) rw_100_17 (A := (M.2.1 1 8).toInt) (B := 351582208) rfl rfl (fun h93 => ?_) (fun h93 => ?_)
    · have z_94 : x_kx (x_val t nn a) = 10 := (x_kx_w2 (x_val t nn a)).2.2.2.1.mpr (by omega)
      refine to_an (pc := 33) rw_100_33 rfl ?_
      refine tt_gI (pc := 34) rw_100_34 (g_o hG rfl) (v := (M.2.1 28 7)) rfl ?_
      refine to_c (pc := 37) rw_100_37 (x := (40 : Int32)) rfl rfl ?_
      refine b_clt (pc := 39) rw_100_39 (A := (M.2.1 28 7).toInt) (B := 40) rfl rfl (fun h95 => ?_) (fun h95 => ?_)
      · refine to_an (pc := 48) rw_100_48 rfl ?_
        refine tt_gI (pc := 49) rw_100_49 (g_o hG rfl) (v := (M.2.1 28 7)) rfl ?_
        refine to_is (pc := 52) rw_100_52 (ls2 := [.ref 28, .ref 1, .ref p, .ref 11, .int o, .int (M.2.1 1 8), .int (M.2.1 28 7), .null]) rfl rfl ?_
        refine to_an (pc := 54) rw_100_54 rfl ?_
        refine to_dupr (pc := 55) rw_100_55 ?_
        refine tt_gI (pc := 56) rw_100_56 (g_o hG rfl) (v := (M.2.1 28 7)) rfl ?_
        refine to_c (pc := 59) rw_100_59 (x := (1 : Int32)) rfl rfl ?_
        refine s_add (pc := 60) rw_100_60 (A := (M.2.1 28 7).toInt) (B := 1) rfl rfl (by omega) (fun v96 e97 => ?_)
        refine s_pI (pc := 61) rw_100_61 hG rfl (fun M99 W98 => ?_)
        have hG100 := g_w hG W98 (A := v96.toInt) rfl (lo := 0) (hi := 40) rfl rfl (by omega) (by decide)
        have F101 := FR.w F0 W98 (show 28 = 1 ∧ 6 ≤ 7 ∧ 7 ≤ 11 ∨ 28 ≤ 28 ∧ 28 ≤ 35 by decide)
        refine to_an (pc := 64) rw_100_64 rfl ?_
        refine s_gR (pc := 65) rw_100_65 hG100 rfl (v := 29) rfl ?_
        refine to_i (pc := 68) rw_100_68 rfl ?_
        refine to_i (pc := 70) rw_100_70 rfl ?_
        refine s_ias (pc := 72) rw_100_72 hG100 rfl (n := 40) rfl (A := (M.2.1 28 7).toInt) rfl (by omega) (by omega) (fun M103 W102 => ?_)
        have hG104 := g_wf hG100 W102 rfl rfl (by decide)
        have F105 := FR.w F101 W102 (show 29 = 1 ∧ 6 ≤ ((M.2.1 28 7).toInt).toNat ∧ ((M.2.1 28 7).toInt).toNat ≤ 11 ∨ 28 ≤ 29 ∧ 29 ≤ 35 by omega)
        have z_106 := WKc_w (WKc_f (fun a i z => (W_n W98 (tg_151 a i z) rfl)) q8) W102 (by omega)
        refine to_an (pc := 73) rw_100_73 rfl ?_
        refine s_v (pc := 74) rw_100_74 (by omega) (ls0 := [.ref 1]) rfl (Nat.le_of_ble_eq_true rfl) (Nat.le_of_ble_eq_true rfl) rfl (to_rc rfl rfl rfl (g_o hG104 rfl)) rfl ?_
        have j_107 := (CS_f (fun a i z => W_n W102 (tg_152 a i _ z) rfl) (CS_f (fun a i z => W_n W98 (tg_153 a i z) rfl) q3))
        have c_108 : M103.2.1 1 9 = (M.2.1 1 9) := (W_n W102 (fun z => absurd z.1 (by decide)) (W_n W98 (by decide) rfl))
        have t_109 : (M103.2.1 1 9).toInt = (M.2.1 1 9).toInt := congrArg Int32.toInt c_108
        refine E_83 hX (by omega) hG104 j_107 (by omega) (t := t) (nn := nn) (a := a) (fun M114 hG111 F110 p_112 p_113 => ?_)
        have F115 := FR.c F105 F110 tg_143
        refine to_i (pc := 77) rw_100_77 rfl ?_
        refine to_c (pc := 79) rw_100_79 (x := (538561536 : Int32)) rfl rfl ?_
        refine b_cne_t (pc := 81) rw_100_81 (A := (M.2.1 1 8).toInt) (B := 538561536) rfl rfl (by omega) ?_
        refine to_i (pc := 98) rw_100_98 rfl ?_
        refine to_c (pc := 100) rw_100_100 (x := (351582208 : Int32)) rfl rfl ?_
        refine b_cne_f (pc := 102) rw_100_102 (A := (M.2.1 1 8).toInt) (B := 351582208) rfl rfl (by omega) ?_
        refine to_an (pc := 105) rw_100_105 rfl ?_
        refine to_an (pc := 106) rw_100_106 rfl ?_
        refine to_i (pc := 107) rw_100_107 rfl ?_
        refine s_v (pc := 109) rw_100_109 (by omega) (ls0 := [.ref 28, .ref 1, .int (M.2.1 28 7), .null]) rfl (Nat.le_of_ble_eq_true rfl) (Nat.le_of_ble_eq_true rfl) rfl (to_rc rfl rfl rfl (g_o hG111 rfl)) rfl ?_
        have c_116 : M114.2.1 1 10 = (M.2.1 1 10) := (F_n F110 (show ¬ (1 = 1 ∧ 6 ≤ 10 ∧ 10 ≤ 9) by decide) (W_n W102 (fun z => absurd z.1 (by decide)) (W_n W98 (by decide) rfl)))
        have t_117 : (M114.2.1 1 10).toInt = (M.2.1 1 10).toInt := congrArg Int32.toInt c_116
        have c_118 : M114.2.1 1 11 = (M.2.1 1 11) := (F_n F110 (show ¬ (1 = 1 ∧ 6 ≤ 11 ∧ 11 ≤ 9) by decide) (W_n W102 (fun z => absurd z.1 (by decide)) (W_n W98 (by decide) rfl)))
        have t_119 : (M114.2.1 1 11).toInt = (M.2.1 1 11).toInt := congrArg Int32.toInt c_118
        refine E_104 hX (by omega) hG111 (by omega) (by omega) p_112 (by omega) (s := (M.2.1 28 7)) (t := t) (nn := nn) (a := (x_ns t nn a)) (fun r120 M129 hG122 F121 p_123 p_124 p_125 p_126 p_127 p_128 => ?_)
        have F130 := FR.c F115 F121 tg_146
        rcases (show r120.toInt = 0 ∨ r120.toInt = 1 by omega) with h131 | h131
        · skip
          have p_132 := p_127 (by omega)
          clear p_126 p_127 p_128
          have z_133 := (w_jn (by omega) (by omega) (by omega) (by omega) (by omega)).trans (p_132 (x_ww t nn sg 0 (n9 + 1) op (x_k1 A9 n9 1)))
          refine to_is (pc := 112) rw_100_112 (ls2 := [.ref 28, .ref 1, .ref p, .ref 11, .int o, .int (M.2.1 1 8), .int (M.2.1 28 7), .int r120]) rfl rfl ?_
          refine to_go (pc := 114) rw_100_114 ?_
          refine to_an (pc := 130) rw_100_130 rfl ?_
          refine s_gR (pc := 131) rw_100_131 hG122 rfl (v := 35) rfl ?_
          refine to_i (pc := 134) rw_100_134 rfl ?_
          refine to_an (pc := 136) rw_100_136 rfl ?_
          have c_134 : M129.2.1 28 7 = v96 := (F_n F121 (show ¬ (28 = 1 ∧ 6 ≤ 7 ∧ 7 ≤ 11 ∨ 30 ≤ 28 ∧ 28 ≤ 33) by decide) (F_n F110 (show ¬ (28 = 1 ∧ 6 ≤ 7 ∧ 7 ≤ 9) by decide) (W_n W102 (fun z => absurd z.1 (by decide)) (W_e W98))))
          refine tt_gI (pc := 137) rw_100_137 (g_o hG122 rfl) (v := v96) c_134 ?_
          refine s_ias (pc := 140) rw_100_140 hG122 rfl (n := 40) rfl (A := (M.2.1 28 7).toInt) rfl (by omega) (by omega) (fun M136 W135 => ?_)
          have hG137 := g_w hG122 W135 (A := v96.toInt) rfl (lo := 0) (hi := 40) rfl rfl (by omega) (by decide)
          have F138 := FR.w F130 W135 (show 35 = 1 ∧ 6 ≤ ((M.2.1 28 7).toInt).toNat ∧ ((M.2.1 28 7).toInt).toNat ≤ 11 ∨ 28 ≤ 35 ∧ 35 ≤ 35 by omega)
          refine to_i (pc := 141) rw_100_141 rfl ?_
          refine s_r1 (pc := 143) rw_100_143 (A := r120.toInt) rfl (by omega) ?_
          have j_139 := (CS_f (fun a i z => W_n W135 (tg_154 a i _ z) rfl) p_125)
          have c_140 : M136.2.1 28 7 = v96 := (W_n W135 (fun z => absurd z.1 (by decide)) c_134)
          have t_141 : (M136.2.1 28 7).toInt = v96.toInt := congrArg Int32.toInt c_140
          have c_142 : M136.2.1 1 10 = (M129.2.1 1 10) := (W_n W135 (fun z => absurd z.1 (by decide)) rfl)
          have t_143 : (M136.2.1 1 10).toInt = (M129.2.1 1 10).toInt := congrArg Int32.toInt c_142
          have c_144 : M136.2.1 1 11 = (M129.2.1 1 11) := (W_n W135 (fun z => absurd z.1 (by decide)) rfl)
          have t_145 : (M136.2.1 1 11).toInt = (M129.2.1 1 11).toInt := congrArg Int32.toInt c_144
          exact h r120 M136 hG137 F138 (by omega) (by omega) j_139 (by omega) (fun z => by exfalso; omega) (fun _ => winl (by omega) (by omega) z_133) (by omega)
        · skip
          have p_146 := p_126 (by omega)
          have p_147 := p_128 (by omega)
          clear p_126 p_127 p_128
          have z_148 := (w_jn (by omega) (by omega) (by omega) (by omega) (by omega)).trans (p_146 (x_ww t nn sg 0 (n9 + 1) op (x_k1 A9 n9 1)))
          refine to_is (pc := 112) rw_100_112 (ls2 := [.ref 28, .ref 1, .ref p, .ref 11, .int o, .int (M.2.1 1 8), .int (M.2.1 28 7), .int r120]) rfl rfl ?_
          refine to_go (pc := 114) rw_100_114 ?_
          refine to_an (pc := 130) rw_100_130 rfl ?_
          refine s_gR (pc := 131) rw_100_131 hG122 rfl (v := 35) rfl ?_
          refine to_i (pc := 134) rw_100_134 rfl ?_
          refine to_an (pc := 136) rw_100_136 rfl ?_
          have c_149 : M129.2.1 28 7 = v96 := (F_n F121 (show ¬ (28 = 1 ∧ 6 ≤ 7 ∧ 7 ≤ 11 ∨ 30 ≤ 28 ∧ 28 ≤ 33) by decide) (F_n F110 (show ¬ (28 = 1 ∧ 6 ≤ 7 ∧ 7 ≤ 9) by decide) (W_n W102 (fun z => absurd z.1 (by decide)) (W_e W98))))
          refine tt_gI (pc := 137) rw_100_137 (g_o hG122 rfl) (v := v96) c_149 ?_
          refine s_ias (pc := 140) rw_100_140 hG122 rfl (n := 40) rfl (A := (M.2.1 28 7).toInt) rfl (by omega) (by omega) (fun M151 W150 => ?_)
          have hG152 := g_w hG122 W150 (A := v96.toInt) rfl (lo := 0) (hi := 40) rfl rfl (by omega) (by decide)
          have F153 := FR.w F130 W150 (show 35 = 1 ∧ 6 ≤ ((M.2.1 28 7).toInt).toNat ∧ ((M.2.1 28 7).toInt).toNat ≤ 11 ∨ 28 ≤ 35 ∧ 35 ≤ 35 by omega)
          refine to_i (pc := 141) rw_100_141 rfl ?_
          refine s_r1 (pc := 143) rw_100_143 (A := r120.toInt) rfl (by omega) ?_
          have j_154 := (CS_f (fun a i z => W_n W150 (tg_154 a i _ z) rfl) p_125)
          have c_155 : M151.2.1 28 7 = v96 := (W_n W150 (fun z => absurd z.1 (by decide)) c_149)
          have t_156 : (M151.2.1 28 7).toInt = v96.toInt := congrArg Int32.toInt c_155
          have t_157 : (M129.2.1 28 7).toInt = v96.toInt := congrArg Int32.toInt c_149
          have c_158 : M151.2.1 1 10 = (M129.2.1 1 10) := (W_n W150 (fun z => absurd z.1 (by decide)) rfl)
          have t_159 : (M151.2.1 1 10).toInt = (M129.2.1 1 10).toInt := congrArg Int32.toInt c_158
          have c_160 : M151.2.1 1 11 = (M129.2.1 1 11) := (W_n W150 (fun z => absurd z.1 (by decide)) rfl)
          have t_161 : (M151.2.1 1 11).toInt = (M129.2.1 1 11).toInt := congrArg Int32.toInt c_160
          exact h r120 M151 hG152 F153 (by omega) (by omega) j_154 (by omega) (fun _ => WQ_p (k := 1) (by decide) (by omega) (WKc_f (fun a i z => (F_n F121 (tg_155 a i z) (F_n F110 (tg_150 a i z) rfl))) z_106) q10 (by rw [show n9.toNat = ((M.2.1 28 7).toInt).toNat by omega, show M129.2.1 29 ((M.2.1 28 7).toInt).toNat = (M.2.1 1 8) from (F_n F121 (show ¬ (29 = 1 ∧ 6 ≤ ((M.2.1 28 7).toInt).toNat ∧ ((M.2.1 28 7).toInt).toNat ≤ 11 ∨ 30 ≤ 29 ∧ 29 ≤ 33) by omega) (F_n F110 (show ¬ (29 = 1 ∧ 6 ≤ ((M.2.1 28 7).toInt).toNat ∧ ((M.2.1 28 7).toInt).toNat ≤ 9) by omega) (W_e W102)))]; exact (show (M.2.1 1 8).toInt = 351582208 by omega)) (by omega) (W9_i (by omega) W150) (by omega) z_148) (fun z => by exfalso; omega) (by omega)
      · refine to_an (pc := 42) rw_100_42 rfl ?_
        refine to_c (pc := 43) rw_100_43 (x := (2 : Int32)) rfl rfl ?_
        refine s_v (pc := 44) rw_100_44 (by omega) (ls0 := [.ref 1, .int (2 : Int32)]) rfl (Nat.le_of_ble_eq_true rfl) (Nat.le_of_ble_eq_true rfl) rfl (to_rc rfl rfl rfl (g_o hG rfl)) rfl ?_
        refine to_an (pc := 0) rw_84_0 rfl ?_
        refine to_in (pc := 1) rw_84_1 rfl ?_
        refine s_pI (pc := 2) rw_84_2 hG rfl (fun M163 W162 => ?_)
        have hG164 := g_wf hG W162 rfl rfl (by decide)
        have F165 := FR.w F0 W162 (show 1 = 1 ∧ 6 ≤ 10 ∧ 10 ≤ 11 ∨ 28 ≤ 1 ∧ 1 ≤ 35 by decide)
        refine to_an (pc := 5) rw_84_5 rfl ?_
        refine to_an (pc := 6) rw_84_6 rfl ?_
        have c_166 : M163.2.1 1 9 = (M.2.1 1 9) := (W_n W162 (by decide) rfl)
        refine tt_gI (pc := 7) rw_84_7 (g_o hG164 rfl) (v := (M.2.1 1 9)) c_166 ?_
        refine s_pI (pc := 10) rw_84_10 hG164 rfl (fun M168 W167 => ?_)
        have hG169 := g_wf hG164 W167 rfl rfl (by decide)
        have F170 := FR.w F165 W167 (show 1 = 1 ∧ 6 ≤ 11 ∧ 11 ≤ 11 ∨ 28 ≤ 1 ∧ 1 ≤ 35 by decide)
        refine to_c (pc := 13) rw_84_13 (x := (0 : Int32)) rfl rfl ?_
        refine s_r1 (pc := 14) rw_84_14 (A := 0) rfl (by decide) ?_
        refine s_r1 (pc := 47) rw_100_47 (A := 0) rfl (by decide) ?_
        have k_171 : (0 : Int32).toInt = 0 := rfl
        have j_172 := (CS_f (fun a i z => W_n W167 (tg_32 a i z) rfl) (CS_f (fun a i z => W_n W162 (tg_33 a i z) rfl) q3))
        have c_173 : M168.2.1 28 7 = (M.2.1 28 7) := (W_n W167 (by decide) (W_n W162 (by decide) rfl))
        have t_174 : (M168.2.1 28 7).toInt = (M.2.1 28 7).toInt := congrArg Int32.toInt c_173
        have c_175 : M168.2.1 1 10 = (2 : Int32) := (W_n W167 (by decide) (W_e W162))
        have k_176 : (2 : Int32).toInt = 2 := rfl
        have t_177 : (M168.2.1 1 10).toInt = (2 : Int32).toInt := congrArg Int32.toInt c_175
        have c_178 : M168.2.1 1 11 = (M.2.1 1 9) := (W_e W167)
        have t_179 : (M168.2.1 1 11).toInt = (M.2.1 1 9).toInt := congrArg Int32.toInt c_178
        exact h (0 : Int32) M168 hG169 F170 (by decide) (by decide) j_172 (by omega) (fun z => by exfalso; omega) (fun _ => winl (by omega) (by omega) (w_40 (by omega) (by omega) (by omega) (by omega) (by omega))) (by omega)
    · refine to_i (pc := 20) rw_100_20 rfl ?_
      refine to_c (pc := 22) rw_100_22 (x := (40936896 : Int32)) rfl rfl ?_
      refine b_ceq (pc := 24) rw_100_24 (A := (M.2.1 1 8).toInt) (B := 40936896) rfl rfl (fun h180 => ?_) (fun h180 => ?_)
      · have z_181 : x_kx (x_val t nn a) = 11 := (x_kx_w2 (x_val t nn a)).2.2.2.2.mpr (by omega)
        refine to_an (pc := 33) rw_100_33 rfl ?_
        refine tt_gI (pc := 34) rw_100_34 (g_o hG rfl) (v := (M.2.1 28 7)) rfl ?_
        refine to_c (pc := 37) rw_100_37 (x := (40 : Int32)) rfl rfl ?_
        refine b_clt (pc := 39) rw_100_39 (A := (M.2.1 28 7).toInt) (B := 40) rfl rfl (fun h182 => ?_) (fun h182 => ?_)
        · refine to_an (pc := 48) rw_100_48 rfl ?_
          refine tt_gI (pc := 49) rw_100_49 (g_o hG rfl) (v := (M.2.1 28 7)) rfl ?_
          refine to_is (pc := 52) rw_100_52 (ls2 := [.ref 28, .ref 1, .ref p, .ref 11, .int o, .int (M.2.1 1 8), .int (M.2.1 28 7), .null]) rfl rfl ?_
          refine to_an (pc := 54) rw_100_54 rfl ?_
          refine to_dupr (pc := 55) rw_100_55 ?_
          refine tt_gI (pc := 56) rw_100_56 (g_o hG rfl) (v := (M.2.1 28 7)) rfl ?_
          refine to_c (pc := 59) rw_100_59 (x := (1 : Int32)) rfl rfl ?_
          refine s_add (pc := 60) rw_100_60 (A := (M.2.1 28 7).toInt) (B := 1) rfl rfl (by omega) (fun v183 e184 => ?_)
          refine s_pI (pc := 61) rw_100_61 hG rfl (fun M186 W185 => ?_)
          have hG187 := g_w hG W185 (A := v183.toInt) rfl (lo := 0) (hi := 40) rfl rfl (by omega) (by decide)
          have F188 := FR.w F0 W185 (show 28 = 1 ∧ 6 ≤ 7 ∧ 7 ≤ 11 ∨ 28 ≤ 28 ∧ 28 ≤ 35 by decide)
          refine to_an (pc := 64) rw_100_64 rfl ?_
          refine s_gR (pc := 65) rw_100_65 hG187 rfl (v := 29) rfl ?_
          refine to_i (pc := 68) rw_100_68 rfl ?_
          refine to_i (pc := 70) rw_100_70 rfl ?_
          refine s_ias (pc := 72) rw_100_72 hG187 rfl (n := 40) rfl (A := (M.2.1 28 7).toInt) rfl (by omega) (by omega) (fun M190 W189 => ?_)
          have hG191 := g_wf hG187 W189 rfl rfl (by decide)
          have F192 := FR.w F188 W189 (show 29 = 1 ∧ 6 ≤ ((M.2.1 28 7).toInt).toNat ∧ ((M.2.1 28 7).toInt).toNat ≤ 11 ∨ 28 ≤ 29 ∧ 29 ≤ 35 by omega)
          have z_193 := WKc_w (WKc_f (fun a i z => (W_n W185 (tg_151 a i z) rfl)) q8) W189 (by omega)
          refine to_an (pc := 73) rw_100_73 rfl ?_
          refine s_v (pc := 74) rw_100_74 (by omega) (ls0 := [.ref 1]) rfl (Nat.le_of_ble_eq_true rfl) (Nat.le_of_ble_eq_true rfl) rfl (to_rc rfl rfl rfl (g_o hG191 rfl)) rfl ?_
          have j_194 := (CS_f (fun a i z => W_n W189 (tg_152 a i _ z) rfl) (CS_f (fun a i z => W_n W185 (tg_153 a i z) rfl) q3))
          have c_195 : M190.2.1 1 9 = (M.2.1 1 9) := (W_n W189 (fun z => absurd z.1 (by decide)) (W_n W185 (by decide) rfl))
          have t_196 : (M190.2.1 1 9).toInt = (M.2.1 1 9).toInt := congrArg Int32.toInt c_195
          refine E_83 hX (by omega) hG191 j_194 (by omega) (t := t) (nn := nn) (a := a) (fun M201 hG198 F197 p_199 p_200 => ?_)
          have F202 := FR.c F192 F197 tg_143
          refine to_i (pc := 77) rw_100_77 rfl ?_
          refine to_c (pc := 79) rw_100_79 (x := (538561536 : Int32)) rfl rfl ?_
          refine b_cne_t (pc := 81) rw_100_81 (A := (M.2.1 1 8).toInt) (B := 538561536) rfl rfl (by omega) ?_
          refine to_i (pc := 98) rw_100_98 rfl ?_
          refine to_c (pc := 100) rw_100_100 (x := (351582208 : Int32)) rfl rfl ?_
          refine b_cne_t (pc := 102) rw_100_102 (A := (M.2.1 1 8).toInt) (B := 351582208) rfl rfl (by omega) ?_
          refine to_an (pc := 117) rw_100_117 rfl ?_
          refine to_an (pc := 118) rw_100_118 rfl ?_
          refine to_an (pc := 119) rw_100_119 rfl ?_
          refine to_an (pc := 120) rw_100_120 rfl ?_
          refine to_i (pc := 121) rw_100_121 rfl ?_
          refine to_i (pc := 123) rw_100_123 rfl ?_
          refine s_v (pc := 125) rw_100_125 (by omega) (ls0 := [.ref 28, .ref 1, .ref p, .ref 11, .int o, .int (M.2.1 28 7)]) rfl (Nat.le_of_ble_eq_true rfl) (Nat.le_of_ble_eq_true rfl) rfl (to_rc rfl rfl rfl (g_o hG198 rfl)) rfl ?_
          have c_203 : M201.2.1 1 10 = (M.2.1 1 10) := (F_n F197 (show ¬ (1 = 1 ∧ 6 ≤ 10 ∧ 10 ≤ 9) by decide) (W_n W189 (fun z => absurd z.1 (by decide)) (W_n W185 (by decide) rfl)))
          have t_204 : (M201.2.1 1 10).toInt = (M.2.1 1 10).toInt := congrArg Int32.toInt c_203
          have c_205 : M201.2.1 1 11 = (M.2.1 1 11) := (F_n F197 (show ¬ (1 = 1 ∧ 6 ≤ 11 ∧ 11 ≤ 9) by decide) (W_n W189 (fun z => absurd z.1 (by decide)) (W_n W185 (by decide) rfl)))
          have t_206 : (M201.2.1 1 11).toInt = (M.2.1 1 11).toInt := congrArg Int32.toInt c_205
          have j_207 := (PLs_f (fun a i z => F_n F197 (show ¬ (a = 1 ∧ 6 ≤ i ∧ i ≤ 9) by omega) rfl) (PLs_f (fun a i z => W_n W189 (by /-r29-/ omega) rfl) (PLs_f (fun a i z => W_n W185 (by /-r28,7-/ omega) rfl) q5)))
          have c_208 : M201.2.1 28 7 = v183 := (F_n F197 (show ¬ (28 = 1 ∧ 6 ≤ 7 ∧ 7 ≤ 9) by decide) (W_n W189 (fun z => absurd z.1 (by decide)) (W_e W185)))
          have t_209 : (M201.2.1 28 7).toInt = v183.toInt := congrArg Int32.toInt c_208
          refine E_105 hX (by omega) hG198 hp (by omega) (by omega) (by omega) (by omega) p_199 (by omega) j_207 (by omega) (by omega) (WKc_f (fun a i z => (F_n F197 (tg_150 a i z) rfl)) z_193) q9 q10 (by omega) (by omega) (by rw [show n9.toNat = ((M.2.1 28 7).toInt).toNat by omega, show M201.2.1 29 ((M.2.1 28 7).toInt).toNat = (M.2.1 1 8) from (F_n F197 (show ¬ (29 = 1 ∧ 6 ≤ ((M.2.1 28 7).toInt).toNat ∧ ((M.2.1 28 7).toInt).toNat ≤ 9) by omega) (W_e W189))]; exact (show (M.2.1 1 8).toInt = 40936896 by omega)) hr (p := p) (o := o) (s := (M.2.1 28 7)) (t := t) (nn := nn) (a := (x_ns t nn a)) (sg := sg) (n9 := n9) (op := op) (A9 := A9) (fun r210 M220 hG212 F211 p_213 p_214 p_215 p_216 p_217 p_218 p_219 => ?_)
          have F221 := FR.c F202 F211 tg_145
          have b_222 := g_b hG212 (a := 28) (i := 7) (lo := 0) (hi := 40) rfl rfl
          rcases (show r210.toInt = 0 ∨ r210.toInt = 1 by omega) with h223 | h223
          · skip
            have p_224 := p_218 (by omega)
            clear p_216 p_217 p_218 p_219
            have z_225 : x_ww t nn sg 0 n9 op A9 a = x_wag t nn o.toInt (x_ns t nn a) (fun tm => x_ww t nn sg 0 (n9 + 1) (n9 :: op) (x_kt A9 n9 tm)) := (w_ag (by omega) (by omega) (by omega) (by omega) (by omega)).trans (by rw [q9])
            have z_226 := z_225.trans p_224
            refine to_is (pc := 128) rw_100_128 (ls2 := [.ref 28, .ref 1, .ref p, .ref 11, .int o, .int (M.2.1 1 8), .int (M.2.1 28 7), .int r210]) rfl rfl ?_
            refine to_an (pc := 130) rw_100_130 rfl ?_
            refine s_gR (pc := 131) rw_100_131 hG212 rfl (v := 35) rfl ?_
            refine to_i (pc := 134) rw_100_134 rfl ?_
            refine to_an (pc := 136) rw_100_136 rfl ?_
            refine tt_gI (pc := 137) rw_100_137 (g_o hG212 rfl) (v := (M220.2.1 28 7)) rfl ?_
            refine s_ias (pc := 140) rw_100_140 hG212 rfl (n := 40) rfl (A := (M.2.1 28 7).toInt) rfl (by omega) (by omega) (fun M228 W227 => ?_)
            have hG229 := g_w hG212 W227 (A := (M220.2.1 28 7).toInt) rfl (lo := 0) (hi := 40) rfl rfl (by omega) (by decide)
            have F230 := FR.w F221 W227 (show 35 = 1 ∧ 6 ≤ ((M.2.1 28 7).toInt).toNat ∧ ((M.2.1 28 7).toInt).toNat ≤ 11 ∨ 28 ≤ 35 ∧ 35 ≤ 35 by omega)
            refine to_i (pc := 141) rw_100_141 rfl ?_
            refine s_r1 (pc := 143) rw_100_143 (A := r210.toInt) rfl (by omega) ?_
            have j_231 := (CS_f (fun a i z => W_n W227 (tg_154 a i _ z) rfl) p_215)
            have c_232 : M228.2.1 28 7 = (M220.2.1 28 7) := (W_n W227 (fun z => absurd z.1 (by decide)) rfl)
            have t_233 : (M228.2.1 28 7).toInt = (M220.2.1 28 7).toInt := congrArg Int32.toInt c_232
            have c_234 : M228.2.1 1 10 = (M220.2.1 1 10) := (W_n W227 (fun z => absurd z.1 (by decide)) rfl)
            have t_235 : (M228.2.1 1 10).toInt = (M220.2.1 1 10).toInt := congrArg Int32.toInt c_234
            have c_236 : M228.2.1 1 11 = (M220.2.1 1 11) := (W_n W227 (fun z => absurd z.1 (by decide)) rfl)
            have t_237 : (M228.2.1 1 11).toInt = (M220.2.1 1 11).toInt := congrArg Int32.toInt c_236
            exact h r210 M228 hG229 F230 (by omega) (by omega) j_231 (by omega) (fun z => by exfalso; omega) (fun _ => winl (by omega) (by omega) z_226) (by omega)
          · skip
            have p_238 := p_216 (by omega)
            have p_239 := p_217 (by omega)
            have p_240 := p_219 (by omega)
            clear p_216 p_217 p_218 p_219
            have z_241 : x_ww t nn sg 0 n9 op A9 a = x_wag t nn o.toInt (x_ns t nn a) (fun tm => x_ww t nn sg 0 (n9 + 1) (n9 :: op) (x_kt A9 n9 tm)) := (w_ag (by omega) (by omega) (by omega) (by omega) (by omega)).trans (by rw [q9])
            have z_242 := WA_e z_241 p_239
            refine to_is (pc := 128) rw_100_128 (ls2 := [.ref 28, .ref 1, .ref p, .ref 11, .int o, .int (M.2.1 1 8), .int (M.2.1 28 7), .int r210]) rfl rfl ?_
            refine to_an (pc := 130) rw_100_130 rfl ?_
            refine s_gR (pc := 131) rw_100_131 hG212 rfl (v := 35) rfl ?_
            refine to_i (pc := 134) rw_100_134 rfl ?_
            refine to_an (pc := 136) rw_100_136 rfl ?_
            refine tt_gI (pc := 137) rw_100_137 (g_o hG212 rfl) (v := (M220.2.1 28 7)) rfl ?_
            refine s_ias (pc := 140) rw_100_140 hG212 rfl (n := 40) rfl (A := (M.2.1 28 7).toInt) rfl (by omega) (by omega) (fun M244 W243 => ?_)
            have hG245 := g_w hG212 W243 (A := (M220.2.1 28 7).toInt) rfl (lo := 0) (hi := 40) rfl rfl (by omega) (by decide)
            have F246 := FR.w F221 W243 (show 35 = 1 ∧ 6 ≤ ((M.2.1 28 7).toInt).toNat ∧ ((M.2.1 28 7).toInt).toNat ≤ 11 ∨ 28 ≤ 35 ∧ 35 ≤ 35 by omega)
            refine to_i (pc := 141) rw_100_141 rfl ?_
            refine s_r1 (pc := 143) rw_100_143 (A := r210.toInt) rfl (by omega) ?_
            have j_247 := (CS_f (fun a i z => W_n W243 (tg_154 a i _ z) rfl) p_215)
            have c_248 : M244.2.1 28 7 = (M220.2.1 28 7) := (W_n W243 (fun z => absurd z.1 (by decide)) rfl)
            have t_249 : (M244.2.1 28 7).toInt = (M220.2.1 28 7).toInt := congrArg Int32.toInt c_248
            have c_250 : M244.2.1 1 10 = (M220.2.1 1 10) := (W_n W243 (fun z => absurd z.1 (by decide)) rfl)
            have t_251 : (M244.2.1 1 10).toInt = (M220.2.1 1 10).toInt := congrArg Int32.toInt c_250
            have c_252 : M244.2.1 1 11 = (M220.2.1 1 11) := (W_n W243 (fun z => absurd z.1 (by decide)) rfl)
            have t_253 : (M244.2.1 1 11).toInt = (M220.2.1 1 11).toInt := congrArg Int32.toInt c_252
            exact h r210 M244 hG245 F246 (by omega) (by omega) j_247 (by omega) (fun _ => WQ_a (by omega) (by omega) z_242 (fun y => by have := q10 n9 y; omega) (W9_i (by omega) W243) (by omega)) (fun z => by exfalso; omega) (by omega)
        · refine to_an (pc := 42) rw_100_42 rfl ?_
          refine to_c (pc := 43) rw_100_43 (x := (2 : Int32)) rfl rfl ?_
          refine s_v (pc := 44) rw_100_44 (by omega) (ls0 := [.ref 1, .int (2 : Int32)]) rfl (Nat.le_of_ble_eq_true rfl) (Nat.le_of_ble_eq_true rfl) rfl (to_rc rfl rfl rfl (g_o hG rfl)) rfl ?_
          refine to_an (pc := 0) rw_84_0 rfl ?_
          refine to_in (pc := 1) rw_84_1 rfl ?_
          refine s_pI (pc := 2) rw_84_2 hG rfl (fun M255 W254 => ?_)
          have hG256 := g_wf hG W254 rfl rfl (by decide)
          have F257 := FR.w F0 W254 (show 1 = 1 ∧ 6 ≤ 10 ∧ 10 ≤ 11 ∨ 28 ≤ 1 ∧ 1 ≤ 35 by decide)
          refine to_an (pc := 5) rw_84_5 rfl ?_
          refine to_an (pc := 6) rw_84_6 rfl ?_
          have c_258 : M255.2.1 1 9 = (M.2.1 1 9) := (W_n W254 (by decide) rfl)
          refine tt_gI (pc := 7) rw_84_7 (g_o hG256 rfl) (v := (M.2.1 1 9)) c_258 ?_
          refine s_pI (pc := 10) rw_84_10 hG256 rfl (fun M260 W259 => ?_)
          have hG261 := g_wf hG256 W259 rfl rfl (by decide)
          have F262 := FR.w F257 W259 (show 1 = 1 ∧ 6 ≤ 11 ∧ 11 ≤ 11 ∨ 28 ≤ 1 ∧ 1 ≤ 35 by decide)
          refine to_c (pc := 13) rw_84_13 (x := (0 : Int32)) rfl rfl ?_
          refine s_r1 (pc := 14) rw_84_14 (A := 0) rfl (by decide) ?_
          refine s_r1 (pc := 47) rw_100_47 (A := 0) rfl (by decide) ?_
          have k_263 : (0 : Int32).toInt = 0 := rfl
          have j_264 := (CS_f (fun a i z => W_n W259 (tg_32 a i z) rfl) (CS_f (fun a i z => W_n W254 (tg_33 a i z) rfl) q3))
          have c_265 : M260.2.1 28 7 = (M.2.1 28 7) := (W_n W259 (by decide) (W_n W254 (by decide) rfl))
          have t_266 : (M260.2.1 28 7).toInt = (M.2.1 28 7).toInt := congrArg Int32.toInt c_265
          have c_267 : M260.2.1 1 10 = (2 : Int32) := (W_n W259 (by decide) (W_e W254))
          have k_268 : (2 : Int32).toInt = 2 := rfl
          have t_269 : (M260.2.1 1 10).toInt = (2 : Int32).toInt := congrArg Int32.toInt c_267
          have c_270 : M260.2.1 1 11 = (M.2.1 1 9) := (W_e W259)
          have t_271 : (M260.2.1 1 11).toInt = (M.2.1 1 9).toInt := congrArg Int32.toInt c_270
          exact h (0 : Int32) M260 hG261 F262 (by decide) (by decide) j_264 (by omega) (fun z => by exfalso; omega) (fun _ => winl (by omega) (by omega) (w_40 (by omega) (by omega) (by omega) (by omega) (by omega))) (by omega)
      · have z_272 : ¬ (x_kx (x_val t nn a) = 7 ∨ x_kx (x_val t nn a) = 10 ∨ x_kx (x_val t nn a) = 11) := fun z => by rcases z with z | z | z; have := (x_kx_w2 (x_val t nn a)).1.mp z; omega; have := (x_kx_w2 (x_val t nn a)).2.2.2.1.mp z; omega; have := (x_kx_w2 (x_val t nn a)).2.2.2.2.mp z; omega
        refine to_an (pc := 27) rw_100_27 rfl ?_
        refine to_c (pc := 28) rw_100_28 (x := (1 : Int32)) rfl rfl ?_
        refine s_v (pc := 29) rw_100_29 (by omega) (ls0 := [.ref 1, .int (1 : Int32)]) rfl (Nat.le_of_ble_eq_true rfl) (Nat.le_of_ble_eq_true rfl) rfl (to_rc rfl rfl rfl (g_o hG rfl)) rfl ?_
        refine to_an (pc := 0) rw_84_0 rfl ?_
        refine to_in (pc := 1) rw_84_1 rfl ?_
        refine s_pI (pc := 2) rw_84_2 hG rfl (fun M274 W273 => ?_)
        have hG275 := g_wf hG W273 rfl rfl (by decide)
        have F276 := FR.w F0 W273 (show 1 = 1 ∧ 6 ≤ 10 ∧ 10 ≤ 11 ∨ 28 ≤ 1 ∧ 1 ≤ 35 by decide)
        refine to_an (pc := 5) rw_84_5 rfl ?_
        refine to_an (pc := 6) rw_84_6 rfl ?_
        have c_277 : M274.2.1 1 9 = (M.2.1 1 9) := (W_n W273 (by decide) rfl)
        refine tt_gI (pc := 7) rw_84_7 (g_o hG275 rfl) (v := (M.2.1 1 9)) c_277 ?_
        refine s_pI (pc := 10) rw_84_10 hG275 rfl (fun M279 W278 => ?_)
        have hG280 := g_wf hG275 W278 rfl rfl (by decide)
        have F281 := FR.w F276 W278 (show 1 = 1 ∧ 6 ≤ 11 ∧ 11 ≤ 11 ∨ 28 ≤ 1 ∧ 1 ≤ 35 by decide)
        refine to_c (pc := 13) rw_84_13 (x := (0 : Int32)) rfl rfl ?_
        refine s_r1 (pc := 14) rw_84_14 (A := 0) rfl (by decide) ?_
        refine s_r1 (pc := 32) rw_100_32 (A := 0) rfl (by decide) ?_
        have k_282 : (0 : Int32).toInt = 0 := rfl
        have j_283 := (CS_f (fun a i z => W_n W278 (tg_32 a i z) rfl) (CS_f (fun a i z => W_n W273 (tg_33 a i z) rfl) q3))
        have c_284 : M279.2.1 28 7 = (M.2.1 28 7) := (W_n W278 (by decide) (W_n W273 (by decide) rfl))
        have t_285 : (M279.2.1 28 7).toInt = (M.2.1 28 7).toInt := congrArg Int32.toInt c_284
        have c_286 : M279.2.1 1 10 = (1 : Int32) := (W_n W278 (by decide) (W_e W273))
        have k_287 : (1 : Int32).toInt = 1 := rfl
        have t_288 : (M279.2.1 1 10).toInt = (1 : Int32).toInt := congrArg Int32.toInt c_286
        have c_289 : M279.2.1 1 11 = (M.2.1 1 9) := (W_e W278)
        have t_290 : (M279.2.1 1 11).toInt = (M.2.1 1 9).toInt := congrArg Int32.toInt c_289
        exact h (0 : Int32) M279 hG280 F281 (by decide) (by decide) j_283 (by omega) (fun z => by exfalso; omega) (fun _ => winl (by omega) (by omega) (w_kx (by omega) (by omega) (by omega) (by omega))) (by omega)
set_option maxRecDepth 4000 in
set_option maxHeartbeats 0 in
theorem U_99_0 {X : mm_X} {d : Nat} {M : mm_M} {Q : Option Value → mm_M → Prop} {p : Nat} {o : Int32} {t : Nat → Int} {nn : Int} {a : Int} {sg : x_S} {n9 : Int} {op : List Int} {A9 : x_A} (hX : g_X X) (hd : 5 + 3 * (5 - o.toInt) ≤ (d : Int)) (hp : p = 49 ∨ p = 58) (q1 : 0 ≤ o.toInt) (q2 : o.toInt ≤ 5) (q3 : CS M t nn) (q4 : (M.2.1 1 9).toInt = a) (q5 : PLs M p sg) (q6 : nn ≤ 500) (q7 : 0 ≤ n9) (q8 : WKc M A9 n9 op) (q9 : (op.length : Int) = o.toInt) (q10 : ∀ m ∈ op, m < n9) (q11 : (M.2.1 28 7).toInt = n9) (hr : RE_99 (5 - o.toInt)) (h : ∀ (r : Int32) (M1 : mm_M), g_G M1 → FR md_w100 M M1 → (0 ≤ r.toInt) → (r.toInt ≤ 1) → CS M1 t nn → (r.toInt = 1 → n9 ≤ (M1.2.1 28 7).toInt) → ((r.toInt = 1 → WQ t nn sg (x_ww t nn sg 0 n9 op A9 a) M1 A9 n9 op o.toInt ∧ ¬ x_kind t nn (M1.2.1 1 9).toInt = 1)) → ((r.toInt = 0 → x_ww t nn sg 0 n9 op A9 a = Sum.inl ((M1.2.1 1 10).toInt, (M1.2.1 1 11).toInt))) → (r.toInt = 1 → (M1.2.1 1 10).toInt = (M.2.1 1 10).toInt ∧ (M1.2.1 1 11).toInt = (M.2.1 1 11).toInt) → Q (some (.int r)) M1) : ∀ nn9 : Nat, (∀ (N : mm_M) (x5 : Int32), g_G N → FR md_w100 M N → (0 ≤ x5.toInt) → (x5.toInt ≤ 41) → (x5.toInt ≤ (N.2.1 28 7).toInt) → (n9 ≤ (N.2.1 28 7).toInt) → (o.toInt = o.toInt) → (CS N t nn) → (PLs N p sg) → (WQ t nn sg (x_ww t nn sg 0 n9 op A9 a) N A9 n9 op o.toInt) → ((N.2.1 1 10).toInt = (M.2.1 1 10).toInt ∧ (N.2.1 1 11).toInt = (M.2.1 1 11).toInt) → 41 - x5.toInt < (nn9 : Int) → mm_T X d 99 3 [.ref 28, .ref 1, .ref p, .ref 11, .int o, .int x5] [] N Q) := by
  intro nn9
  induction nn9 with
  | zero =>
    intro N x5 hG F0 g1 g2 g3 g4 g5 g6 g7 g8 g9 hm
    have b_1 := g_b hG (a := 28) (i := 7) (lo := 0) (hi := 40) rfl rfl
    exfalso; omega
  | succ nn9 ih =>
    intro N x5 hG F0 g1 g2 g3 g4 g5 g6 g7 g8 g9 hm
    have b_2 := g_b hG (a := 28) (i := 7) (lo := 0) (hi := 40) rfl rfl
    obtain ⟨B, i_1, i_2, i_3, i_4⟩ := id g8
    have c_3 := CS_u g6 (a := (N.2.1 1 9).toInt) (by omega)
    unfold x_C at c_3
    refine to_i (pc := 3) rw_99_3 rfl ?_
    refine to_c (pc := 5) rw_99_5 (x := (40 : Int32)) rfl rfl ?_
    refine b_cgt (pc := 7) rw_99_7 (A := x5.toInt) (B := 40) rfl rfl (fun h4 => ?_) (fun h4 => ?_)
    · refine to_c (pc := 38) rw_99_38 (x := (1 : Int32)) rfl rfl ?_
      refine s_r1 (pc := 39) rw_99_39 (A := 1) rfl (by decide) ?_
      have k_5 : (1 : Int32).toInt = 1 := rfl
      exact h (1 : Int32) N hG F0 (by decide) (by decide) g6 (by omega) (fun _ => ⟨g8, by omega⟩) (fun z => by exfalso; omega) (by omega)
    · refine to_an (pc := 10) rw_99_10 rfl ?_
      refine tt_gI (pc := 11) rw_99_11 (g_o hG rfl) (v := (N.2.1 1 7)) rfl ?_
      refine to_c (pc := 14) rw_99_14 (x := (4 : Int32)) rfl rfl ?_
      refine b_cne (pc := 15) rw_99_15 (A := (N.2.1 1 7).toInt) (B := 4) rfl rfl (fun h6 => ?_) (fun h6 => ?_)
      · refine to_c (pc := 38) rw_99_38 (x := (1 : Int32)) rfl rfl ?_
        refine s_r1 (pc := 39) rw_99_39 (A := 1) rfl (by decide) ?_
        have k_7 : (1 : Int32).toInt = 1 := rfl
        exact h (1 : Int32) N hG F0 (by decide) (by decide) g6 (by omega) (fun _ => ⟨g8, by omega⟩) (fun z => by exfalso; omega) (by omega)
      · refine to_an (pc := 18) rw_99_18 rfl ?_
        refine to_an (pc := 19) rw_99_19 rfl ?_
        refine to_an (pc := 20) rw_99_20 rfl ?_
        refine to_an (pc := 21) rw_99_21 rfl ?_
        refine to_i (pc := 22) rw_99_22 rfl ?_
        refine s_v (pc := 24) rw_99_24 (by omega) (ls0 := [.ref 28, .ref 1, .ref p, .ref 11, .int o, .null, .null, .null]) rfl (Nat.le_of_ble_eq_true rfl) (Nat.le_of_ble_eq_true rfl) rfl (to_rc rfl rfl rfl (g_o hG rfl)) rfl ?_
        refine E_100 hX (by omega) hG hp (by omega) (by omega) g6 (by omega) g7 (by omega) (by omega) i_1 q9 (fun m hm => by have := q10 m hm; omega) (by omega) (by omega) hr (p := p) (o := o) (t := t) (nn := nn) (a := (N.2.1 1 9).toInt) (sg := sg) (n9 := (N.2.1 28 7).toInt) (op := op) (A9 := B) (fun r8 M18 hG10 F9 p_11 p_12 p_13 p_14 p_15 p_16 p_17 => ?_)
        have F19 := FR.c F0 F9 tg_145
        have b_20 := g_b hG10 (a := 28) (i := 7) (lo := 0) (hi := 40) rfl rfl
        rcases (show r8.toInt = 0 ∨ r8.toInt = 1 by omega) with h21 | h21
        · skip
          have p_22 := p_16 (by omega)
          clear p_14 p_15 p_16 p_17
          have z_23 := i_2.trans p_22
          refine b_ine_f (pc := 27) rw_99_27 (A := r8.toInt) rfl (by omega) ?_
          refine to_c (pc := 30) rw_99_30 (x := (0 : Int32)) rfl rfl ?_
          refine s_r1 (pc := 31) rw_99_31 (A := 0) rfl (by decide) ?_
          have k_24 : (0 : Int32).toInt = 0 := rfl
          exact h (0 : Int32) M18 hG10 F19 (by decide) (by decide) p_13 (by omega) (fun z => by exfalso; omega) (fun _ => winl (by omega) (by omega) z_23) (by omega)
        · skip
          have p_25 := p_14 (by omega)
          have p_26 := p_15 (by omega)
          have p_27 := p_17 (by omega)
          clear p_14 p_15 p_16 p_17
          have z_28 := WQ_s (by omega) (by omega) i_3 i_4 (WQ_e i_2 p_26)
          refine b_ine_t (pc := 27) rw_99_27 (A := r8.toInt) rfl (by omega) ?_
          refine s_inc (pc := 32) rw_99_32 (ls2 := fun v => [.ref 28, .ref 1, .ref p, .ref 11, .int o, .int v]) rfl rfl (fun _ => rfl) (A := x5.toInt) (B := 1) rfl rfl (by omega) (fun v29 e30 => ?_)
          refine to_go (pc := 35) rw_99_35 ?_
          have j_31 := (PLs_f (fun a i z => F_n F9 (show ¬ (a = 1 ∧ 6 ≤ i ∧ i ≤ 11 ∨ 28 ≤ a ∧ a ≤ 35) by omega) rfl) g7)
          exact ih M18 v29 hG10 F19 (by omega) (by omega) (by omega) (by omega) (by omega) p_13 j_31 z_28 (by omega) (by omega)
set_option maxRecDepth 4000 in
set_option maxHeartbeats 0 in
theorem BE_99 {X : mm_X} {d : Nat} {M : mm_M} {Q : Option Value → mm_M → Prop} {p : Nat} {o : Int32} {t : Nat → Int} {nn : Int} {a : Int} {sg : x_S} {n9 : Int} {op : List Int} {A9 : x_A} (hX : g_X X) (hd : 5 + 3 * (5 - o.toInt) ≤ (d : Int)) (hG : g_G M) (hp : p = 49 ∨ p = 58) (q1 : 0 ≤ o.toInt) (q2 : o.toInt ≤ 5) (q3 : CS M t nn) (q4 : (M.2.1 1 9).toInt = a) (q5 : PLs M p sg) (q6 : nn ≤ 500) (q7 : 0 ≤ n9) (q8 : WKc M A9 n9 op) (q9 : (op.length : Int) = o.toInt) (q10 : ∀ m ∈ op, m < n9) (q11 : (M.2.1 28 7).toInt = n9) (hr : RE_99 (5 - o.toInt)) (h : ∀ (r : Int32) (M1 : mm_M), g_G M1 → FR md_w100 M M1 → (0 ≤ r.toInt) → (r.toInt ≤ 1) → CS M1 t nn → (r.toInt = 1 → n9 ≤ (M1.2.1 28 7).toInt) → ((r.toInt = 1 → WQ t nn sg (x_ww t nn sg 0 n9 op A9 a) M1 A9 n9 op o.toInt ∧ ¬ x_kind t nn (M1.2.1 1 9).toInt = 1)) → ((r.toInt = 0 → x_ww t nn sg 0 n9 op A9 a = Sum.inl ((M1.2.1 1 10).toInt, (M1.2.1 1 11).toInt))) → (r.toInt = 1 → (M1.2.1 1 10).toInt = (M.2.1 1 10).toInt ∧ (M1.2.1 1 11).toInt = (M.2.1 1 11).toInt) → Q (some (.int r)) M1) : mm_T X d 99 0 [.ref 28, .ref 1, .ref p, .ref 11, .int o, .null] [] M Q := by
  have F0 : FR md_w100 M M := FR.rf
  have b_32 := g_b hG (a := 28) (i := 7) (lo := 0) (hi := 40) rfl rfl
  refine to_c (pc := 0) rw_99_0 (x := (0 : Int32)) rfl rfl ?_
  refine to_is (pc := 1) rw_99_1 (ls2 := [.ref 28, .ref 1, .ref p, .ref 11, .int o, .int (0 : Int32)]) rfl rfl ?_
  have k_33 : (0 : Int32).toInt = 0 := rfl
  exact (U_99_0 (p := p) (o := o) (t := t) (nn := nn) (a := a) (sg := sg) (n9 := n9) (op := op) (A9 := A9) hX hd hp q1 q2 q3 q4 q5 q6 q7 q8 q9 q10 q11 hr h ((41 - (0 : Int32).toInt).toNat + 1)) M (0 : Int32) hG F0 (by omega) (by omega) (by omega) (by omega) (by omega) q3 q5 (WQ_0 q8 (by omega) (by omega) rfl) (by omega) (by omega)
theorem RE_99_all : ∀ nn : Nat, RE_99 (nn : Int) := by
  intro nn
  induction nn with
  | zero =>
    intro X d M Q p o t nn a sg n9 op A9 hX hd hG hp q1 q2 q3 q4 q5 q6 q7 q8 q9 q10 q11 hm h
    exfalso; omega
  | succ nn ih =>
    intro X d M Q p o t nn a sg n9 op A9 hX hd hG hp q1 q2 q3 q4 q5 q6 q7 q8 q9 q10 q11 hm h
    exact BE_99 hX hd hG hp q1 q2 q3 q4 q5 q6 q7 q8 q9 q10 q11 (fun X2 d2 M2 Q2 p2 o2 t2 nn2 a2 sg2 n92 op2 A92 e71 e72 e73 hp2 q12 q22 q32 q42 q52 q62 q72 q82 q92 q102 q112 hm2 h2 => ih X2 d2 M2 Q2 p2 o2 t2 nn2 a2 sg2 n92 op2 A92 e71 e72 e73 hp2 q12 q22 q32 q42 q52 q62 q72 q82 q92 q102 q112 (by omega) h2) h
theorem E_99 {X : mm_X} {d : Nat} {M : mm_M} {Q : Option Value → mm_M → Prop} {p : Nat} {o : Int32} {t : Nat → Int} {nn : Int} {a : Int} {sg : x_S} {n9 : Int} {op : List Int} {A9 : x_A} (hX : g_X X) (hd : 5 + 3 * (5 - o.toInt) ≤ (d : Int)) (hG : g_G M) (hp : p = 49 ∨ p = 58) (q1 : 0 ≤ o.toInt) (q2 : o.toInt ≤ 5) (q3 : CS M t nn) (q4 : (M.2.1 1 9).toInt = a) (q5 : PLs M p sg) (q6 : nn ≤ 500) (q7 : 0 ≤ n9) (q8 : WKc M A9 n9 op) (q9 : (op.length : Int) = o.toInt) (q10 : ∀ m ∈ op, m < n9) (q11 : (M.2.1 28 7).toInt = n9) (h : ∀ (r : Int32) (M1 : mm_M), g_G M1 → FR md_w100 M M1 → (0 ≤ r.toInt) → (r.toInt ≤ 1) → CS M1 t nn → (r.toInt = 1 → n9 ≤ (M1.2.1 28 7).toInt) → ((r.toInt = 1 → WQ t nn sg (x_ww t nn sg 0 n9 op A9 a) M1 A9 n9 op o.toInt ∧ ¬ x_kind t nn (M1.2.1 1 9).toInt = 1)) → ((r.toInt = 0 → x_ww t nn sg 0 n9 op A9 a = Sum.inl ((M1.2.1 1 10).toInt, (M1.2.1 1 11).toInt))) → (r.toInt = 1 → (M1.2.1 1 10).toInt = (M.2.1 1 10).toInt ∧ (M1.2.1 1 11).toInt = (M.2.1 1 11).toInt) → Q (some (.int r)) M1) : mm_T X d 99 0 [.ref 28, .ref 1, .ref p, .ref 11, .int o, .null] [] M Q := RE_99_all ((5 - o.toInt).toNat + 1) X d M Q p o t nn a sg n9 op A9 hX hd hG hp q1 q2 q3 q4 q5 q6 q7 q8 q9 q10 q11 (by omega) h
set_option maxRecDepth 4000 in
set_option maxHeartbeats 0 in
theorem E_98 {X : mm_X} {d : Nat} {M : mm_M} {Q : Option Value → mm_M → Prop} {p : Nat} {t : Nat → Int} {nn : Int} {a : Int} {sg : x_S} (hX : g_X X) (hd : 21 ≤ d) (hG : g_G M) (hp : p = 49 ∨ p = 58) (q1 : CS M t nn) (q2 : (M.2.1 1 9).toInt = a) (q3 : PLs M p sg) (q4 : nn ≤ 500) (h : ∀ (r : Int32) (M1 : mm_M), g_G M1 → FR md_w100 M M1 → (0 ≤ r.toInt) → (r.toInt ≤ 1) → CS M1 t nn → ((r.toInt = 1 → WR98 (x_ww t nn sg 0 0 [] x_A0 a) M1)) → ((r.toInt = 0 → x_ww t nn sg 0 0 [] x_A0 a = Sum.inl ((M1.2.1 1 10).toInt, (M1.2.1 1 11).toInt))) → (r.toInt = 1 → (M1.2.1 1 10).toInt = (M.2.1 1 10).toInt ∧ (M1.2.1 1 11).toInt = (M.2.1 1 11).toInt) → Q (some (.int r)) M1) : mm_T X d 98 0 [.ref 28, .ref 1, .ref p, .ref 11] [] M Q := by
  have F0 : FR md_w100 M M := FR.rf
  have c_1 := CS_u q1 (a := a) (by omega)
  unfold x_C at c_1
  refine to_an (pc := 0) rw_98_0 rfl ?_
  refine to_c (pc := 1) rw_98_1 (x := (0 : Int32)) rfl rfl ?_
  refine s_pI (pc := 2) rw_98_2 hG rfl (fun M3 W2 => ?_)
  have hG4 := g_w hG W2 (A := 0) rfl (lo := 0) (hi := 40) rfl rfl (by omega) (by decide)
  have F5 := FR.w F0 W2 (show 28 = 1 ∧ 6 ≤ 7 ∧ 7 ≤ 11 ∨ 28 ≤ 28 ∧ 28 ≤ 35 by decide)
  refine to_an (pc := 5) rw_98_5 rfl ?_
  refine to_an (pc := 6) rw_98_6 rfl ?_
  refine to_an (pc := 7) rw_98_7 rfl ?_
  refine to_an (pc := 8) rw_98_8 rfl ?_
  refine to_c (pc := 9) rw_98_9 (x := (0 : Int32)) rfl rfl ?_
  refine s_v (pc := 10) rw_98_10 (dp0 hd (by decide)) (ls0 := [.ref 28, .ref 1, .ref p, .ref 11, .int (0 : Int32), .null]) rfl (Nat.le_of_ble_eq_true rfl) (Nat.le_of_ble_eq_true rfl) rfl (to_rc rfl rfl rfl (g_o hG4 rfl)) rfl ?_
  have k_6 : (0 : Int32).toInt = 0 := rfl
  have c_7 : M3.2.1 1 10 = (M.2.1 1 10) := (W_n W2 (by decide) rfl)
  have t_8 : (M3.2.1 1 10).toInt = (M.2.1 1 10).toInt := congrArg Int32.toInt c_7
  have c_9 : M3.2.1 1 11 = (M.2.1 1 11) := (W_n W2 (by decide) rfl)
  have t_10 : (M3.2.1 1 11).toInt = (M.2.1 1 11).toInt := congrArg Int32.toInt c_9
  have j_11 := (CS_f (fun a i z => W_n W2 (tg_153 a i z) rfl) q1)
  have c_12 : M3.2.1 1 9 = (M.2.1 1 9) := (W_n W2 (by decide) rfl)
  have t_13 : (M3.2.1 1 9).toInt = (M.2.1 1 9).toInt := congrArg Int32.toInt c_12
  have j_14 := (PLs_f (fun a i z => W_n W2 (by /-r28,7-/ omega) rfl) q3)
  have c_15 : M3.2.1 28 7 = (0 : Int32) := (W_e W2)
  have t_16 : (M3.2.1 28 7).toInt = (0 : Int32).toInt := congrArg Int32.toInt c_15
  refine E_99 hX (by omega) hG4 hp (by omega) (by omega) j_11 (by omega) j_14 (by omega) (by omega) (fun i hi => by exfalso; omega) rfl (fun m hm => absurd hm List.not_mem_nil) (by omega) (p := p) (o := (0 : Int32)) (t := t) (nn := nn) (a := a) (sg := sg) (n9 := 0) (op := []) (A9 := x_A0) (fun r17 M27 hG19 F18 p_20 p_21 p_22 p_23 p_24 p_25 p_26 => ?_)
  have F28 := FR.c F5 F18 tg_145
  have b_29 := g_b hG19 (a := 28) (i := 7) (lo := 0) (hi := 40) rfl rfl
  rcases (show r17.toInt = 0 ∨ r17.toInt = 1 by omega) with h30 | h30
  · skip
    have p_31 := p_25 (by omega)
    clear p_23 p_24 p_25 p_26
    have z_32 := p_31
    refine b_ieq_t (pc := 13) rw_98_13 (A := r17.toInt) rfl (by omega) ?_
    refine to_c (pc := 27) rw_98_27 (x := (0 : Int32)) rfl rfl ?_
    refine s_r1 (pc := 28) rw_98_28 (A := 0) rfl (by decide) ?_
    exact h (0 : Int32) M27 hG19 F28 (by decide) (by decide) p_22 (fun z => by exfalso; omega) (fun _ => winl (by omega) (by omega) z_32) (by omega)
  · skip
    have p_33 := p_23 (by omega)
    have p_34 := p_24 (by omega)
    have p_35 := p_26 (by omega)
    clear p_23 p_24 p_25 p_26
    have z_36 := p_34.1
    have z_37 := p_34.2
    have c_38 := CS_u p_22 (a := (M27.2.1 1 9).toInt) (by omega)
    unfold x_C at c_38
    refine b_ieq_f (pc := 13) rw_98_13 (A := r17.toInt) rfl (by omega) ?_
    refine to_an (pc := 16) rw_98_16 rfl ?_
    refine s_v (pc := 17) rw_98_17 (dp0 hd (by decide)) (ls0 := [.ref 1]) rfl (Nat.le_of_ble_eq_true rfl) (Nat.le_of_ble_eq_true rfl) rfl (to_rc rfl rfl rfl (g_o hG19 rfl)) rfl ?_
    refine to_an (pc := 0) rw_87_0 rfl ?_
    refine tt_gI (pc := 1) rw_87_1 (g_o hG19 rfl) (v := (M27.2.1 1 7)) rfl ?_
    refine b_ieq (pc := 4) rw_87_4 (A := (M27.2.1 1 7).toInt) rfl (fun h39 => ?_) (fun h39 => ?_)
    · refine to_c (pc := 15) rw_87_15 (x := (1 : Int32)) rfl rfl ?_
      refine to_go (pc := 16) rw_87_16 ?_
      refine s_r1 (pc := 20) rw_87_20 (A := 1) rfl (by decide) ?_
      refine b_ieq_f (pc := 20) rw_98_20 (A := 1) rfl (by decide) ?_
      refine to_c (pc := 23) rw_98_23 (x := (1 : Int32)) rfl rfl ?_
      refine to_go (pc := 24) rw_98_24 ?_
      refine s_r1 (pc := 28) rw_98_28 (A := 1) rfl (by decide) ?_
      have k_40 : (1 : Int32).toInt = 1 := rfl
      exact h (1 : Int32) M27 hG19 F28 (by decide) (by decide) p_22 (fun _ => WR_i z_36 (by omega) (by omega) (by omega)) (fun z => by exfalso; omega) (by omega)
    · refine to_an (pc := 7) rw_87_7 rfl ?_
      refine to_c (pc := 8) rw_87_8 (x := (1 : Int32)) rfl rfl ?_
      refine s_v (pc := 9) rw_87_9 (dp1 hd (by decide)) (ls0 := [.ref 1, .int (1 : Int32)]) rfl (Nat.le_of_ble_eq_true rfl) (Nat.le_of_ble_eq_true rfl) rfl (to_rc rfl rfl rfl (g_o hG19 rfl)) rfl ?_
      refine to_an (pc := 0) rw_84_0 rfl ?_
      refine to_in (pc := 1) rw_84_1 rfl ?_
      refine s_pI (pc := 2) rw_84_2 hG19 rfl (fun M42 W41 => ?_)
      have hG43 := g_wf hG19 W41 rfl rfl (by decide)
      have F44 := FR.w F28 W41 (show 1 = 1 ∧ 6 ≤ 10 ∧ 10 ≤ 11 ∨ 28 ≤ 1 ∧ 1 ≤ 35 by decide)
      refine to_an (pc := 5) rw_84_5 rfl ?_
      refine to_an (pc := 6) rw_84_6 rfl ?_
      have c_45 : M42.2.1 1 9 = (M27.2.1 1 9) := (W_n W41 (by decide) rfl)
      refine tt_gI (pc := 7) rw_84_7 (g_o hG43 rfl) (v := (M27.2.1 1 9)) c_45 ?_
      refine s_pI (pc := 10) rw_84_10 hG43 rfl (fun M47 W46 => ?_)
      have hG48 := g_wf hG43 W46 rfl rfl (by decide)
      have F49 := FR.w F44 W46 (show 1 = 1 ∧ 6 ≤ 11 ∧ 11 ≤ 11 ∨ 28 ≤ 1 ∧ 1 ≤ 35 by decide)
      refine to_c (pc := 13) rw_84_13 (x := (0 : Int32)) rfl rfl ?_
      refine s_r1 (pc := 14) rw_84_14 (A := 0) rfl (by decide) ?_
      refine b_ieq_t (pc := 12) rw_87_12 (A := 0) rfl (by decide) ?_
      refine to_c (pc := 19) rw_87_19 (x := (0 : Int32)) rfl rfl ?_
      refine s_r1 (pc := 20) rw_87_20 (A := 0) rfl (by decide) ?_
      refine b_ieq_t (pc := 20) rw_98_20 (A := 0) rfl (by decide) ?_
      refine to_c (pc := 27) rw_98_27 (x := (0 : Int32)) rfl rfl ?_
      refine s_r1 (pc := 28) rw_98_28 (A := 0) rfl (by decide) ?_
      have j_50 := (CS_f (fun a i z => W_n W46 (tg_32 a i z) rfl) (CS_f (fun a i z => W_n W41 (tg_33 a i z) rfl) p_22))
      have c_51 : M47.2.1 1 10 = (1 : Int32) := (W_n W46 (by decide) (W_e W41))
      have k_52 : (1 : Int32).toInt = 1 := rfl
      have t_53 : (M47.2.1 1 10).toInt = (1 : Int32).toInt := congrArg Int32.toInt c_51
      have c_54 : M47.2.1 1 11 = (M27.2.1 1 9) := (W_e W46)
      have t_55 : (M47.2.1 1 11).toInt = (M27.2.1 1 9).toInt := congrArg Int32.toInt c_54
      exact h (0 : Int32) M47 hG48 F49 (by decide) (by decide) j_50 (fun z => by exfalso; omega) (fun _ => winl (by omega) (by omega) (WR_x z_36 (by omega) (by omega) (by omega) (by omega))) (by omega)
