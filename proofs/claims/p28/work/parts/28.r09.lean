theorem tg_142 : ∀ a i : Nat, (a < 0) → (a = 39 ∧ 4 ≤ i) := fun a i z => by omega
theorem tg_143 : ∀ a i : Nat, (a = 39 ∧ 4 ≤ i) → (a = 39 ∧ 4 ≤ i) := fun a i z => by omega
theorem tg_144 : ∀ a i : Nat, (a = 39 ∧ 4 ≤ i) → (39 ≤ a ∧ a ≤ 41) := fun a i z => by omega
noncomputable def RE_17 (k : Int) : Prop := ∀ (X : mm_X) (d : Nat) (M : mm_M) (Q : Option Value → mm_M → Prop) (f : Int32) (c : Int32) (x : Int64) (h9 : Int64) (t9 : Int) (C9 : Nat → Int64) (L9 : List Nat) (v9 : Int64), g_X X → (13 - f.toInt ≤ (d : Int)) → g_G M → (0 ≤ f.toInt) → (f.toInt ≤ 12) → (f.toInt ≤ (M.2.1 39 2).toInt) → ((M.2.1 39 2).toInt ≤ 12) → ((M.2.1 39 3).toInt = t9) → (0 ≤ (M.2.1 39 6).toInt) → ((M.2.1 39 6).toInt ≤ 4095) → ((L9.length : Int) = (M.2.1 39 2).toInt) → (ML M L9 C9) → (x = h9 &&& (v9 ^^^ (-1 : Int64))) → (0 ≤ h9.toInt ∧ h9.toInt < 4611686018427387904) → ((M.2.1 39 6).toInt + x_p2 f.toInt ≤ 4096) → 12 - f.toInt < k → (∀ (M1 : mm_M), g_G M1 → FR md_m2 M M1 → (MT M M1 (x_mt h9 t9 C9 (L9.drop (f.toInt).toNat) v9 c)) → Q (none) M1) → mm_T X d 17 0 [.ref 39, .int f, .int c, .long x, .null] [] M Q
set_option maxRecDepth 4000 in
set_option maxHeartbeats 0 in
theorem BE_17 {X : mm_X} {d : Nat} {M : mm_M} {Q : Option Value → mm_M → Prop} {f : Int32} {c : Int32} {x : Int64} {h9 : Int64} {t9 : Int} {C9 : Nat → Int64} {L9 : List Nat} {v9 : Int64} (hX : g_X X) (hd : 13 - f.toInt ≤ (d : Int)) (hG : g_G M) (q1 : 0 ≤ f.toInt) (q2 : f.toInt ≤ 12) (q3 : f.toInt ≤ (M.2.1 39 2).toInt) (q4 : (M.2.1 39 2).toInt ≤ 12) (q5 : (M.2.1 39 3).toInt = t9) (q6 : 0 ≤ (M.2.1 39 6).toInt) (q7 : (M.2.1 39 6).toInt ≤ 4095) (q8 : (L9.length : Int) = (M.2.1 39 2).toInt) (q9 : ML M L9 C9) (q10 : x = h9 &&& (v9 ^^^ (-1 : Int64))) (q11 : 0 ≤ h9.toInt ∧ h9.toInt < 4611686018427387904) (q12 : (M.2.1 39 6).toInt + x_p2 f.toInt ≤ 4096) (hr : RE_17 (12 - f.toInt)) (h : ∀ (M1 : mm_M), g_G M1 → FR md_m2 M M1 → (MT M M1 (x_mt h9 t9 C9 (L9.drop (f.toInt).toNat) v9 c)) → Q (none) M1) : mm_T X d 17 0 [.ref 39, .int f, .int c, .long x, .null] [] M Q := by
  have F0 : FR md_m2 M M := FR.rf
  have b_1 := g_b hG (a := 39) (i := 2) (lo := 0) (hi := 12) rfl rfl
  have z_2 := x_p2_1 (f := f.toInt)
  refine to_in (pc := 0) rw_17_0 rfl (to_an (pc := 1) rw_17_1 rfl (tt_gI (pc := 2) rw_17_2 (g_o hG rfl) (v := (M.2.1 39 2)) rfl (b_cge (pc := 5) rw_17_5 (A := f.toInt) (B := (M.2.1 39 2).toInt) rfl rfl (fun h3 => ?_) (fun h3 => ?_))))
  · refine to_ln (pc := 49) rw_17_49 rfl rfl rfl (s_s (pc := 50) rw_17_50 (by omega) (ls0 := [.long x, .null]) rfl (Nat.le_of_ble_eq_true rfl) (Nat.le_of_ble_eq_true rfl) rfl (to_rcs rfl rfl) rfl ?_)
    have hb9 : 0 ≤ x.toInt ∧ x.toInt < 4611686018427387904 := by rw [q10]; exact l_and_l q11
    refine E_248 hX (by omega) hG (by omega) (by omega) (x := x) (fun r4 M8 hG6 F5 p_7 => ?_)
    have F9 := FR.c F0 F5 tg_142
    have c_10 : M8.2.1 39 2 = (M.2.1 39 2) := (F_n F5 (show ¬ (39 < 0) by decide) rfl)
    have t_11 : (M8.2.1 39 2).toInt = (M.2.1 39 2).toInt := congrArg Int32.toInt c_10
    have c_12 : M8.2.1 39 3 = (M.2.1 39 3) := (F_n F5 (show ¬ (39 < 0) by decide) rfl)
    have t_13 : (M8.2.1 39 3).toInt = (M.2.1 39 3).toInt := congrArg Int32.toInt c_12
    have c_14 : M8.2.1 39 4 = (M.2.1 39 4) := (F_n F5 (show ¬ (39 < 0) by decide) rfl)
    have t_15 : (M8.2.1 39 4).toInt = (M.2.1 39 4).toInt := congrArg Int32.toInt c_14
    have c_16 : M8.2.1 39 5 = (M.2.1 39 5) := (F_n F5 (show ¬ (39 < 0) by decide) rfl)
    have t_17 : (M8.2.1 39 5).toInt = (M.2.1 39 5).toInt := congrArg Int32.toInt c_16
    have c_18 : M8.2.1 39 6 = (M.2.1 39 6) := (F_n F5 (show ¬ (39 < 0) by decide) rfl)
    have t_19 : (M8.2.1 39 6).toInt = (M.2.1 39 6).toInt := congrArg Int32.toInt c_18
    refine to_an (pc := 53) rw_17_53 rfl (tt_gI (pc := 54) rw_17_54 (g_o hG6 rfl) (v := (M.2.1 39 3)) c_12 (b_cgt (pc := 57) rw_17_57 (A := r4.toInt) (B := (M.2.1 39 3).toInt) rfl rfl (fun h20 => ?_) (fun h20 => ?_)))
    · refine to_rv (pc := 90) rw_17_90 ?_
      exact h M8 hG6 F9 (MT_e (by omega) (MT_f (fun a i z => (F_n F5 (show ¬ (a < 0) by omega) rfl)) (MT_x (by rw [← q10, ← p_7]; omega))))
    · refine to_an (pc := 60) rw_17_60 rfl (to_dupr (pc := 61) rw_17_61 (tt_gI (pc := 62) rw_17_62 (g_o hG6 rfl) (v := (M.2.1 39 6)) c_18 (to_c (pc := 65) rw_17_65 (x := (1 : Int32)) rfl rfl ?_)))
      have i_23 := i_of (x := (M.2.1 39 6))
      refine s_add (pc := 66) rw_17_66 (A := (M.2.1 39 6).toInt) (B := 1) rfl rfl (by omega) (fun v21 e22 => s_pI (pc := 67) rw_17_67 hG6 rfl (fun M25 W24 => ?_))
      have hG26 := g_wf hG6 W24 rfl rfl (by decide)
      have F27 := FR.w F9 W24 (show 39 = 39 ∧ 4 ≤ 6 by decide)
      refine to_an (pc := 70) rw_17_70 rfl (to_dupr (pc := 71) rw_17_71 ?_)
      have c_28 : M25.2.1 39 4 = (M.2.1 39 4) := (W_n W24 (by decide) c_14)
      refine tt_gI (pc := 72) rw_17_72 (g_o hG26 rfl) (v := (M.2.1 39 4)) c_28 (to_in (pc := 75) rw_17_75 rfl (s_opE (pc := 76) rw_17_76 (w := (M.2.1 39 4) &&& c) rfl (fun v29 e30 => s_pI (pc := 77) rw_17_77 hG26 rfl (fun M32 W31 => ?_))))
      have hG33 := g_wf hG26 W31 rfl rfl (by decide)
      have F34 := FR.w F27 W31 (show 39 = 39 ∧ 4 ≤ 4 by decide)
      refine to_an (pc := 80) rw_17_80 rfl (to_dupr (pc := 81) rw_17_81 ?_)
      have c_35 : M32.2.1 39 5 = (M.2.1 39 5) := (W_n W31 (by decide) (W_n W24 (by decide) c_16))
      refine tt_gI (pc := 82) rw_17_82 (g_o hG33 rfl) (v := (M.2.1 39 5)) c_35 (to_in (pc := 85) rw_17_85 rfl (s_opE (pc := 86) rw_17_86 (w := (M.2.1 39 5) ||| c) rfl (fun v36 e37 => s_pI (pc := 87) rw_17_87 hG33 rfl (fun M39 W38 => ?_))))
      have hG40 := g_wf hG33 W38 rfl rfl (by decide)
      have F41 := FR.w F34 W38 (show 39 = 39 ∧ 4 ≤ 5 by decide)
      refine to_rv (pc := 90) rw_17_90 ?_
      have c_42 : M39.2.1 39 6 = v21 := (W_n W38 (by decide) (W_n W31 (by decide) (W_e W24)))
      have c_43 : M39.2.1 39 4 = v29 := (W_n W38 (by decide) (W_e W31))
      have t_44 : (M39.2.1 39 4).toInt = v29.toInt := congrArg Int32.toInt c_43
      have c_45 : M39.2.1 39 5 = v36 := (W_e W38)
      have t_46 : (M39.2.1 39 5).toInt = v36.toInt := congrArg Int32.toInt c_45
      have t_47 : (M39.2.1 39 6).toInt = v21.toInt := congrArg Int32.toInt c_42
      exact h M39 hG40 F41 (MT_e (by omega) (MT_y (by rw [← q10, ← p_7]; omega) (by omega) (e30.trans (c_43).symm) (e37.trans (c_45).symm)))
  · refine to_an (pc := 8) rw_17_8 rfl (to_in (pc := 9) rw_17_9 rfl (to_c (pc := 10) rw_17_10 (x := (1 : Int32)) rfl rfl (s_add (pc := 11) rw_17_11 (A := f.toInt) (B := 1) rfl rfl (by omega) (fun v48 e49 => to_in (pc := 12) rw_17_12 rfl (to_ln (pc := 13) rw_17_13 rfl rfl rfl (s_v (pc := 14) rw_17_14 (by omega) (ls0 := [.ref 39, .int v48, .int c, .long x, .null]) rfl (Nat.le_of_ble_eq_true rfl) (Nat.le_of_ble_eq_true rfl) rfl (to_rc rfl rfl rfl (g_o hG rfl)) rfl ?_))))))
    have z_50 := x_p2_1 (f := v48.toInt)
    have z_51 := x_p2_s (f := f.toInt) (g := v48.toInt) (by omega) (by omega)
    refine hr X _ _ _ v48 c x h9 t9 C9 L9 v9 hX (by omega) hG (by omega) (by omega) (by omega) (by omega) (by omega) (by omega) (by omega) (by omega) q9 q10 q11 (by omega) (by omega) (fun M55 hG53 F52 p_54 => ?_)
    have F56 := FR.c F0 F52 tg_143
    have c_57 : M55.2.1 39 2 = (M.2.1 39 2) := (F_n F52 (show ¬ (39 = 39 ∧ 4 ≤ 2) by decide) rfl)
    have t_58 : (M55.2.1 39 2).toInt = (M.2.1 39 2).toInt := congrArg Int32.toInt c_57
    have c_59 : M55.2.1 39 3 = (M.2.1 39 3) := (F_n F52 (show ¬ (39 = 39 ∧ 4 ≤ 3) by decide) rfl)
    have t_60 : (M55.2.1 39 3).toInt = (M.2.1 39 3).toInt := congrArg Int32.toInt c_59
    have z_61 := p_54.1
    have z_62 := x_mt_p (h := h9) (t := t9) (C := C9) (L := L9) (cov := v9) (b := c) (f := v48.toInt) (by omega) (by omega)
    have z_63 := x_p2_s (f := f.toInt) (g := v48.toInt) (by omega) (by omega)
    refine to_an (pc := 17) rw_17_17 rfl (to_in (pc := 18) rw_17_18 rfl (to_c (pc := 19) rw_17_19 (x := (1 : Int32)) rfl rfl (s_add (pc := 20) rw_17_20 (A := f.toInt) (B := 1) rfl rfl (by omega) (fun v64 e65 => to_in (pc := 21) rw_17_21 rfl (to_c (pc := 22) rw_17_22 (x := (1 : Int32)) rfl rfl (to_an (pc := 23) rw_17_23 rfl (s_gR (pc := 24) rw_17_24 hG53 rfl (v := 40) rfl (to_in (pc := 27) rw_17_27 rfl (s_ial (pc := 28) rw_17_28 hG53 rfl (n := 12) rfl rfl (A := f.toInt) rfl (by omega) (by omega) (lo := -2147483648) (hi := 2147483647) rfl rfl (fun v66 w_67 _ _ => ?_))))))))))
    have z_68 := (congrArg Int32.toInt w_67).symm.trans (((ML_f (fun i => (F_n F52 (show ¬ (40 = 39 ∧ 4 ≤ i) by omega) rfl)) (fun i => (F_nl F52 (show ¬ (41 = 39 ∧ 4 ≤ i) by omega) rfl)) q9) (f.toInt).toNat (by omega)).1)
    refine s_opE (pc := 29) rw_17_29 (w := (1 : Int32) <<< v66) rfl (fun v69 e70 => s_opE (pc := 30) rw_17_30 (w := c ||| v69) rfl (fun v71 e72 => to_ln (pc := 31) rw_17_31 rfl rfl rfl (to_an (pc := 32) rw_17_32 rfl (s_gR (pc := 33) rw_17_33 hG53 rfl (v := 41) rfl (to_in (pc := 36) rw_17_36 rfl (s_lalE (pc := 37) rw_17_37 hG53 rfl (n := 12) rfl (A := f.toInt) rfl (by omega) (by omega) (fun l73 w_74 => ?_)))))))
    have z_75 := w_74.symm.trans (((ML_f (fun i => (F_n F52 (show ¬ (40 = 39 ∧ 4 ≤ i) by omega) rfl)) (fun i => (F_nl F52 (show ¬ (41 = 39 ∧ 4 ≤ i) by omega) rfl)) q9) (f.toInt).toNat (by omega)).2)
    refine to_cl (pc := 38) rw_17_38 rfl (x := (-1 : Int64)) rfl (to_2l (pc := 41) rw_17_41 (v := (l73 ^^^ (-1 : Int64))) rfl (to_2l (pc := 42) rw_17_42 (v := (x &&& (l73 ^^^ (-1 : Int64)))) rfl (s_v (pc := 43) rw_17_43 (by omega) (ls0 := [.ref 39, .int v64, .int v71, .long (x &&& (l73 ^^^ (-1 : Int64))), .null]) rfl (Nat.le_of_ble_eq_true rfl) (Nat.le_of_ble_eq_true rfl) rfl (to_rc rfl rfl rfl (g_o hG53 rfl)) rfl ?_)))
    have z_76 := x_p2_1 (f := v64.toInt)
    have z_77 := x_p2_s (f := f.toInt) (g := v64.toInt) (by omega) (by omega)
    refine hr X _ _ _ v64 v71 (x &&& (l73 ^^^ (-1 : Int64))) h9 t9 C9 L9 (v9 ||| C9 (L9.getD (f.toInt).toNat 0)) hX (by omega) hG53 (by omega) (by omega) (by omega) (by omega) (by omega) (by omega) (by omega) (by omega) (ML_f (fun i => (F_n F52 (show ¬ (40 = 39 ∧ 4 ≤ i) by omega) rfl)) (fun i => (F_nl F52 (show ¬ (41 = 39 ∧ 4 ≤ i) by omega) rfl)) q9) (l_op q10 z_75 rfl) q11 (by omega) (by omega) (fun M81 hG79 F78 p_80 => ?_)
    have F82 := FR.c F56 F78 tg_143
    have c_83 : M81.2.1 39 2 = (M.2.1 39 2) := (F_n F78 (show ¬ (39 = 39 ∧ 4 ≤ 2) by decide) c_57)
    have t_84 : (M81.2.1 39 2).toInt = (M.2.1 39 2).toInt := congrArg Int32.toInt c_83
    have c_85 : M81.2.1 39 3 = (M.2.1 39 3) := (F_n F78 (show ¬ (39 = 39 ∧ 4 ≤ 3) by decide) c_59)
    have t_86 : (M81.2.1 39 3).toInt = (M.2.1 39 3).toInt := congrArg Int32.toInt c_85
    refine to_go (pc := 46) rw_17_46 (to_rv (pc := 90) rw_17_90 ?_)
    exact h M81 hG79 F82 (MT_n (by omega) (by omega) (by omega) (by omega) p_54 p_80 rfl rfl (by rw [← e72, ← e70, x_i32 z_68]))
theorem RE_17_all : ∀ nn : Nat, RE_17 (nn : Int) := by
  intro nn
  induction nn with
  | zero =>
    intro X d M Q f c x h9 t9 C9 L9 v9 hX hd hG q1 q2 q3 q4 q5 q6 q7 q8 q9 q10 q11 q12 hm h
    exfalso; omega
  | succ nn ih =>
    intro X d M Q f c x h9 t9 C9 L9 v9 hX hd hG q1 q2 q3 q4 q5 q6 q7 q8 q9 q10 q11 q12 hm h
    exact BE_17 hX hd hG q1 q2 q3 q4 q5 q6 q7 q8 q9 q10 q11 q12 (fun X2 d2 M2 Q2 f2 c2 x2 h92 t92 C92 L92 v92 e71 e72 e73 q12 q22 q32 q42 q52 q62 q72 q82 q92 q102 q112 q122 hm2 h2 => ih X2 d2 M2 Q2 f2 c2 x2 h92 t92 C92 L92 v92 e71 e72 e73 q12 q22 q32 q42 q52 q62 q72 q82 q92 q102 q112 q122 (by omega) h2) h
theorem E_17 {X : mm_X} {d : Nat} {M : mm_M} {Q : Option Value → mm_M → Prop} {f : Int32} {c : Int32} {x : Int64} {h9 : Int64} {t9 : Int} {C9 : Nat → Int64} {L9 : List Nat} {v9 : Int64} (hX : g_X X) (hd : 13 - f.toInt ≤ (d : Int)) (hG : g_G M) (q1 : 0 ≤ f.toInt) (q2 : f.toInt ≤ 12) (q3 : f.toInt ≤ (M.2.1 39 2).toInt) (q4 : (M.2.1 39 2).toInt ≤ 12) (q5 : (M.2.1 39 3).toInt = t9) (q6 : 0 ≤ (M.2.1 39 6).toInt) (q7 : (M.2.1 39 6).toInt ≤ 4095) (q8 : (L9.length : Int) = (M.2.1 39 2).toInt) (q9 : ML M L9 C9) (q10 : x = h9 &&& (v9 ^^^ (-1 : Int64))) (q11 : 0 ≤ h9.toInt ∧ h9.toInt < 4611686018427387904) (q12 : (M.2.1 39 6).toInt + x_p2 f.toInt ≤ 4096) (h : ∀ (M1 : mm_M), g_G M1 → FR md_m2 M M1 → (MT M M1 (x_mt h9 t9 C9 (L9.drop (f.toInt).toNat) v9 c)) → Q (none) M1) : mm_T X d 17 0 [.ref 39, .int f, .int c, .long x, .null] [] M Q := RE_17_all ((12 - f.toInt).toNat + 1) X d M Q f c x h9 t9 C9 L9 v9 hX hd hG q1 q2 q3 q4 q5 q6 q7 q8 q9 q10 q11 q12 (by omega) h
set_option maxRecDepth 4000 in
set_option maxHeartbeats 0 in
theorem U_16_0 {X : mm_X} {d : Nat} {M : mm_M} {Q : Option Value → mm_M → Prop} {p : Nat} {c : Int32} {f : Int32} {t : Int32} {sg : x_S} {ca : Int} {K : x_Kn} (hX : g_X X) (hd : 14 ≤ d) (hp : p = 49 ∨ p = 58) (q1 : 0 ≤ c.toInt) (q2 : c.toInt < ca) (q3 : ca ≤ 30) (q4 : 0 ≤ f.toInt) (q5 : f.toInt < sg.2.1) (q6 : PLs M p sg) (q7 : KST M 12 13 14 15 ca sg K) (h : ∀ (M1 : mm_M), g_G M1 → FR md_m M M1 → (MS M1 (x_mt (x_hf sg K c.toInt f.toInt) t.toInt K.2.2.2 (x_mwf sg f.toInt (K.1 (c.toInt).toNat) K.2.2.2) 0 0) (x_wof sg f.toInt)) → Q (none) M1) : ∀ nn9 : Nat, (∀ (N : mm_M) (y6 : Int64) (x8 : Int32), g_G N → FR md_m M N → (0 ≤ x8.toInt) → (x8.toInt ≤ 12) → (x8.toInt ≤ sg.2.2.1) → (0 ≤ (N.2.1 39 2).toInt) → ((N.2.1 39 2).toInt ≤ 12) → ((N.2.1 39 2).toInt ≤ x8.toInt) → (PLs N p sg) → (KST N 12 13 14 15 ca sg K) → (y6 = (x_hf sg K c.toInt f.toInt)) → (MWc N sg f.toInt (K.1 (c.toInt).toNat) K.2.2.2 x8.toInt (N.2.1 39 2).toInt) → 12 - x8.toInt < (nn9 : Int) → mm_T X d 16 23 [.ref 39, .ref p, .ref 11, .int c, .int f, .int t, .long y6, .null, .int x8] [] N Q) := by
  intro nn9
  induction nn9 with
  | zero =>
    intro N y6 x8 hG F0 g1 g2 g3 g4 g5 g6 g7 g8 g9 g10 hm
    have b_1 := g_b hG (a := 39) (i := 2) (lo := 0) (hi := 12) rfl rfl
    exfalso; omega
  | succ nn9 ih =>
    intro N y6 x8 hG F0 g1 g2 g3 g4 g5 g6 g7 g8 g9 g10 hm
    have b_2 := g_b hG (a := 39) (i := 2) (lo := 0) (hi := 12) rfl rfl
    have z_3 := g7.2.1
    have z_4 := g7.2.2.1
    have z_5 := g7.2.2.2.1
    have z_6 := g7.1
    have z_7 := z_6.1
    have z_8 := z_6.2.1
    have z_9 := z_6.2.2.1
    have z_10 := z_6.2.2.2.1
    have z_11 := z_6.2.2.2.2.1
    have z_12 := z_6.2.2.2.2.2.1
    have b_13 := g_b hG (a := p) (i := 3) (lo := 0) (hi := 12) (by rcases hp with rfl | rfl <;> rfl) (by rcases hp with rfl | rfl <;> rfl)
    have z_14 := g7.1.2.2.2.2.2.2.2 f.toInt (by omega) (by omega)
    have z_15 := x_bw_q (f := x_row sg 3 f.toInt) (l := x_row sg 4 f.toInt) (a := y6) (b := K.1 (c.toInt).toNat) (by omega) (by omega) (by omega) g9
    refine to_i (pc := 23) rw_16_23 rfl (to_an (pc := 25) rw_16_25 rfl (tt_gI (pc := 26) rw_16_26 (g_o hG (by rcases hp with rfl | rfl <;> rfl)) (v := (N.2.1 p 3)) rfl (b_cge (pc := 29) rw_16_29 (A := x8.toInt) (B := (N.2.1 p 3).toInt) rfl rfl (fun h16 => ?_) (fun h16 => ?_))))
    · refine to_an (pc := 109) rw_16_109 rfl (to_i (pc := 110) rw_16_110 rfl (s_pI (pc := 112) rw_16_112 hG rfl (fun M18 W17 => ?_)))
      have hG19 := g_wf hG W17 rfl rfl (by decide)
      have F20 := FR.w F0 W17 (show 39 ≤ 39 ∧ 39 ≤ 41 by decide)
      refine to_an (pc := 115) rw_16_115 rfl (to_an (pc := 116) rw_16_116 rfl (to_i (pc := 117) rw_16_117 rfl (s_v (pc := 119) rw_16_119 (dp0 hd (by decide)) (ls0 := [.ref p, .int f, .null, .null]) rfl (Nat.le_of_ble_eq_true rfl) (Nat.le_of_ble_eq_true rfl) rfl (to_rc rfl rfl rfl (g_o hG19 (by rcases hp with rfl | rfl <;> rfl))) rfl ?_)))
      have j_21 := (PLs_f (fun a i z => W_n W17 (by /-r39,3-/ omega) rfl) g7)
      refine E_51 hX (dp1 hd (by decide)) hG19 hp j_21 (p := p) (f := f) (sg := sg) (fun r22 M26 hG24 F23 p_25 => ?_)
      have F27 := FR.c F20 F23 tg_141
      refine s_pI (pc := 122) rw_16_122 hG24 rfl (fun M29 W28 => ?_)
      have hG30 := g_wf hG24 W28 rfl rfl (by decide)
      have F31 := FR.w F27 W28 (show 39 ≤ 39 ∧ 39 ≤ 41 by decide)
      refine to_an (pc := 125) rw_16_125 rfl (to_c (pc := 126) rw_16_126 (x := (0 : Int32)) rfl rfl (s_pI (pc := 127) rw_16_127 hG30 rfl (fun M33 W32 => ?_)))
      have hG34 := g_wf hG30 W32 rfl rfl (by decide)
      have F35 := FR.w F31 W32 (show 39 ≤ 39 ∧ 39 ≤ 41 by decide)
      refine to_an (pc := 130) rw_16_130 rfl (to_c (pc := 131) rw_16_131 (x := (0 : Int32)) rfl rfl (s_pI (pc := 132) rw_16_132 hG34 rfl (fun M37 W36 => ?_)))
      have hG38 := g_wf hG34 W36 rfl rfl (by decide)
      have F39 := FR.w F35 W36 (show 39 ≤ 39 ∧ 39 ≤ 41 by decide)
      refine to_an (pc := 135) rw_16_135 rfl (to_c (pc := 136) rw_16_136 (x := (0 : Int32)) rfl rfl (to_c (pc := 137) rw_16_137 (x := (0 : Int32)) rfl rfl (to_l (pc := 138) rw_16_138 rfl rfl rfl (s_v (pc := 140) rw_16_140 (dp0 hd (by decide)) (ls0 := [.ref 39, .int (0 : Int32), .int (0 : Int32), .long y6, .null]) rfl (Nat.le_of_ble_eq_true rfl) (Nat.le_of_ble_eq_true rfl) rfl (to_rc rfl rfl rfl (g_o hG38 rfl)) rfl ?_))))
      have k_40 : (0 : Int32).toInt = 0 := rfl
      have z_41 := MWc_x g10 (by omega)
      have z_42 := x_mw_l (s := sg) (f := f.toInt) (X := K.1 (c.toInt).toNat) (C := K.2.2.2) sg.2.2.1.toNat 0
      have z_43 := z_41.2
      have c_44 : M37.2.1 39 2 = (N.2.1 39 2) := (W_n W36 (by decide) (W_n W32 (by decide) (W_n W28 (by decide) (F_n F23 (show ¬ (39 < 0) by decide) (W_n W17 (by decide) rfl)))))
      have t_45 : (M37.2.1 39 2).toInt = (N.2.1 39 2).toInt := congrArg Int32.toInt c_44
      have c_46 : M37.2.1 39 3 = t := (W_n W36 (by decide) (W_n W32 (by decide) (W_n W28 (by decide) (F_n F23 (show ¬ (39 < 0) by decide) (W_e W17)))))
      have t_47 : (M37.2.1 39 3).toInt = t.toInt := congrArg Int32.toInt c_46
      have c_48 : M37.2.1 39 6 = (0 : Int32) := (W_e W36)
      have t_49 : (M37.2.1 39 6).toInt = (0 : Int32).toInt := congrArg Int32.toInt c_48
      have z_50 : x_p2 (0 : Int32).toInt = 4096 := rfl
      have z_51 := (by rw [← g9]; exact z_15 : 0 ≤ (x_hf sg K c.toInt f.toInt).toInt ∧ (x_hf sg K c.toInt f.toInt).toInt < 4611686018427387904)
      refine E_17 hX (by omega) hG38 (by omega) (by omega) (by omega) (by omega) (by omega) (by omega) (by omega) (by omega) (ML_f (fun i => (W_n W36 (by omega) (W_n W32 (by omega) (W_n W28 (by omega) (F_n F23 (show ¬ (40 < 0) by decide) (W_n W17 (by omega) rfl)))))) (fun i => (W_j W36 (W_j W32 (W_j W28 (F_nl F23 (show ¬ (41 < 0) by decide) (W_j W17 rfl)))))) z_41.1) (l_op0 g9) z_51 (by omega) (f := (0 : Int32)) (c := (0 : Int32)) (x := y6) (h9 := (x_hf sg K c.toInt f.toInt)) (t9 := t.toInt) (C9 := K.2.2.2) (L9 := (x_mwf sg f.toInt (K.1 (c.toInt).toNat) K.2.2.2)) (v9 := (0 : Int64)) (fun M55 hG53 F52 p_54 => ?_)
      have F56 := FR.c F39 F52 tg_144
      refine to_an (pc := 143) rw_16_143 rfl (tt_gI (pc := 144) rw_16_144 (g_o hG53 rfl) (v := (M55.2.1 39 6)) rfl (b_ine (pc := 147) rw_16_147 (A := (M55.2.1 39 6).toInt) rfl (fun h57 => ?_) (fun h57 => ?_)))
      · refine to_rv (pc := 155) rw_16_155 ?_
        have c_58 : M37.2.1 39 4 = r22 := (W_n W36 (by decide) (W_n W32 (by decide) (W_e W28)))
        have c_59 : M37.2.1 39 5 = (0 : Int32) := (W_n W36 (by decide) (W_e W32))
        exact h M55 hG53 F56 (MS_i p_54 c_48 (c_58.trans p_25) c_59 (by omega))
      · refine to_an (pc := 150) rw_16_150 rfl (to_c (pc := 151) rw_16_151 (x := (0 : Int32)) rfl rfl (s_pI (pc := 152) rw_16_152 hG53 rfl (fun M61 W60 => ?_)))
        have hG62 := g_wf hG53 W60 rfl rfl (by decide)
        have F63 := FR.w F56 W60 (show 39 ≤ 39 ∧ 39 ≤ 41 by decide)
        refine to_rv (pc := 155) rw_16_155 ?_
        have c_64 : M37.2.1 39 4 = r22 := (W_n W36 (by decide) (W_n W32 (by decide) (W_e W28)))
        have c_65 : M37.2.1 39 5 = (0 : Int32) := (W_n W36 (by decide) (W_e W32))
        have c_66 : M61.2.1 39 6 = (M55.2.1 39 6) := (W_n W60 (by decide) rfl)
        have t_67 : (M61.2.1 39 6).toInt = (M55.2.1 39 6).toInt := congrArg Int32.toInt c_66
        exact h M61 hG62 F63 (MS_z p_54 c_48 c_65 (by omega) W60)
    · refine to_i (pc := 32) rw_16_32 rfl (to_c (pc := 34) rw_16_34 (x := (12 : Int32)) rfl rfl (b_cge_f (pc := 36) rw_16_36 (A := x8.toInt) (B := 12) rfl rfl (by omega) (to_an (pc := 39) rw_16_39 rfl (s_gR (pc := 40) rw_16_40 hG (by rcases hp with rfl | rfl <;> rfl) (v := (p + 7)) (by rcases hp with rfl | rfl <;> rfl) (to_i (pc := 43) rw_16_43 rfl (s_ial (pc := 45) rw_16_45 hG (by rcases hp with rfl | rfl <;> rfl) (n := 12) (by rcases hp with rfl | rfl <;> rfl) (by rcases hp with rfl | rfl <;> rfl) (A := x8.toInt) rfl (by omega) (by omega) (lo := 0) (hi := 7) (by rcases hp with rfl | rfl <;> rfl) (by rcases hp with rfl | rfl <;> rfl) (fun v68 w_69 _ _ => ?_)))))))
      have z_70 := PLs_v g7 7 (by decide) (by decide) (k := x8.toInt) (by omega) (by omega) w_69
      refine to_i (pc := 46) rw_16_46 rfl (b_cne (pc := 48) rw_16_48 (A := v68.toInt) (B := f.toInt) rfl rfl (fun h71 => ?_) (fun h71 => ?_))
      · refine s_inc (pc := 103) rw_16_103 (ls2 := fun v => [.ref 39, .ref p, .ref 11, .int c, .int f, .int t, .long y6, .null, .int v]) rfl rfl (fun _ => rfl) (A := x8.toInt) (B := 1) rfl rfl (by omega) (fun v72 e73 => to_go (pc := 106) rw_16_106 ?_)
        exact ih N y6 v72 hG F0 (by omega) (by omega) (by omega) (by omega) (by omega) (by omega) g7 g8 g9 (MWc_n g10 (fun i => rfl) (fun i => rfl) (by omega) (by omega) (by omega) (by omega) (fun z => by have := z.1; omega)) (by omega)
      · refine to_an (pc := 51) rw_16_51 rfl (to_in (pc := 52) rw_16_52 rfl (to_an (pc := 53) rw_16_53 rfl (s_gR (pc := 54) rw_16_54 hG rfl (v := 15) rfl (to_i (pc := 57) rw_16_57 rfl (s_lalE (pc := 59) rw_16_59 hG rfl (n := 12) rfl (A := x8.toInt) rfl (by omega) (by omega) (fun l74 w_75 => ?_))))))
        have z_76 : l74 = K.2.2.2 (x8.toInt).toNat := KST_ld (K := K) g8 (by omega) (by omega) w_75
        refine s_v (pc := 60) rw_16_60 (dp0 hd (by decide)) (ls0 := [.ref 11, .int c, .long l74, .null]) rfl (Nat.le_of_ble_eq_true rfl) (Nat.le_of_ble_eq_true rfl) rfl (to_rc rfl rfl rfl (g_o hG rfl)) rfl (to_an (pc := 0) rw_14_0 rfl (s_gR (pc := 1) rw_14_1 hG rfl (v := 12) rfl (to_in (pc := 4) rw_14_4 rfl (s_lalE (pc := 5) rw_14_5 hG rfl (n := 30) rfl (A := c.toInt) rfl (by omega) (by omega) (fun l77 w_78 => ?_)))))
        have z_79 : l77 = K.1 (c.toInt).toNat := KST_lc (K := K) g8 (by omega) (by omega) w_78
        refine to_ln (pc := 6) rw_14_6 rfl rfl rfl (to_2l (pc := 7) rw_14_7 (v := (l77 &&& l74)) rfl (to_ln (pc := 8) rw_14_8 rfl rfl rfl (s_lcmpE (pc := 9) rw_14_9 (fun v80 e81 => ?_))))
        have b_82 := x_eq_b (x := (l77 &&& l74)) (y := l74)
        have z_83 : x_eq (K.1 (c.toInt).toNat &&& K.2.2.2 (x8.toInt).toNat) (K.2.2.2 (x8.toInt).toNat) = x_eq (l77 &&& l74) l74 := by rw [z_79, z_76]
        refine b_ine (pc := 10) rw_14_10 (A := v80.toInt) rfl (fun h84 => ?_) (fun h84 => ?_)
        · refine to_c (pc := 17) rw_14_17 (x := (0 : Int32)) rfl rfl (s_r1 (pc := 18) rw_14_18 (A := 0) rfl (by decide) (b_ieq_t (pc := 63) rw_16_63 (A := 0) rfl (by decide) (s_inc (pc := 103) rw_16_103 (ls2 := fun v => [.ref 39, .ref p, .ref 11, .int c, .int f, .int t, .long y6, .null, .int v]) rfl rfl (fun _ => rfl) (A := x8.toInt) (B := 1) rfl rfl (by omega) (fun v85 e86 => to_go (pc := 106) rw_16_106 ?_))))
          exact ih N y6 v85 hG F0 (by omega) (by omega) (by omega) (by omega) (by omega) (by omega) g7 g8 g9 (MWc_n g10 (fun i => rfl) (fun i => rfl) (by omega) (by omega) (by omega) (by omega) (fun z => by have := x_eq_1.mpr z.2; omega)) (by omega)
        · refine to_c (pc := 13) rw_14_13 (x := (1 : Int32)) rfl rfl (to_go (pc := 14) rw_14_14 (s_r1 (pc := 18) rw_14_18 (A := 1) rfl (by decide) (b_ieq_f (pc := 63) rw_16_63 (A := 1) rfl (by decide) (to_an (pc := 66) rw_16_66 rfl (s_gR (pc := 67) rw_16_67 hG rfl (v := 40) rfl (to_an (pc := 70) rw_16_70 rfl (tt_gI (pc := 71) rw_16_71 (g_o hG rfl) (v := (N.2.1 39 2)) rfl (to_i (pc := 74) rw_16_74 rfl (s_ias (pc := 76) rw_16_76 hG rfl (n := 12) rfl (A := (N.2.1 39 2).toInt) rfl (by omega) (by omega) (fun M88 W87 => ?_))))))))))
          have hG89 := g_wf hG W87 rfl rfl (by decide)
          have F90 := FR.w F0 W87 (show 39 ≤ 40 ∧ 40 ≤ 41 by decide)
          refine to_an (pc := 77) rw_16_77 rfl (s_gR (pc := 78) rw_16_78 hG89 rfl (v := 41) rfl (to_an (pc := 81) rw_16_81 rfl ?_))
          have c_91 : M88.2.1 39 2 = (N.2.1 39 2) := (W_n W87 (fun z => absurd z.1 (by decide)) rfl)
          refine tt_gI (pc := 82) rw_16_82 (g_o hG89 rfl) (v := (N.2.1 39 2)) c_91 (to_an (pc := 85) rw_16_85 rfl (s_gR (pc := 86) rw_16_86 hG89 rfl (v := 15) rfl (to_i (pc := 89) rw_16_89 rfl (s_lalE (pc := 91) rw_16_91 hG89 rfl (n := 12) rfl (A := x8.toInt) rfl (by omega) (by omega) (fun l92 w_93 => ?_)))))
          have kn_94 : KST M88 12 13 14 15 ca sg K := KST_f (fun i => (W_j W87 rfl)) (fun i => (W_n W87 (by omega) rfl)) (fun i => (W_n W87 (by omega) rfl)) (fun i => (W_j W87 rfl)) g8
          have z_95 : l92 = K.2.2.2 (x8.toInt).toNat := KST_ld (K := K) kn_94 (by omega) (by omega) w_93
          refine s_las (pc := 92) rw_16_92 hG89 rfl (n := 12) rfl (A := (N.2.1 39 2).toInt) rfl (by omega) (by omega) (fun M97 W96 => ?_)
          have hG98 := g_wl hG89 W96
          have F99 := FR.wl F90 W96 (show 39 ≤ 41 ∧ 41 ≤ 41 by decide)
          refine to_an (pc := 93) rw_16_93 rfl (to_dupr (pc := 94) rw_16_94 ?_)
          have c_100 : M97.2.1 39 2 = (N.2.1 39 2) := (W_l W96 c_91)
          refine tt_gI (pc := 95) rw_16_95 (g_o hG98 rfl) (v := (N.2.1 39 2)) c_100 (to_c (pc := 98) rw_16_98 (x := (1 : Int32)) rfl rfl (s_add (pc := 99) rw_16_99 (A := (N.2.1 39 2).toInt) (B := 1) rfl rfl (by omega) (fun v101 e102 => s_pI (pc := 100) rw_16_100 hG98 rfl (fun M104 W103 => ?_))))
          have hG105 := g_w hG98 W103 (A := v101.toInt) rfl (lo := 0) (hi := 12) rfl rfl (by omega) (by decide)
          have F106 := FR.w F99 W103 (show 39 ≤ 39 ∧ 39 ≤ 41 by decide)
          refine s_inc (pc := 103) rw_16_103 (ls2 := fun v => [.ref 39, .ref p, .ref 11, .int c, .int f, .int t, .long y6, .null, .int v]) rfl rfl (fun _ => rfl) (A := x8.toInt) (B := 1) rfl rfl (by omega) (fun v107 e108 => to_go (pc := 106) rw_16_106 ?_)
          have c_109 : M104.2.1 39 2 = v101 := (W_e W103)
          have t_110 : (M104.2.1 39 2).toInt = v101.toInt := congrArg Int32.toInt c_109
          have j_111 := (PLs_f (fun a i z => W_n W103 (by /-r39,2-/ omega) rfl) (PLs_f (fun a i z => W_l W96 rfl) (PLs_f (fun a i z => W_n W87 (by /-r40-/ omega) rfl) g7)))
          have kn_112 : KST M104 12 13 14 15 ca sg K := KST_f (fun i => (W_j W103 (L_n W96 (by omega) rfl))) (fun i => (W_n W103 (by omega) (W_l W96 rfl))) (fun i => (W_n W103 (by omega) (W_l W96 rfl))) (fun i => (W_j W103 (L_n W96 (by omega) rfl))) kn_94
          exact ih M104 y6 v107 hG105 F106 (by omega) (by omega) (by omega) (by omega) (by omega) (by omega) j_111 kn_112 g9 (MWc_f (fun i => W_n W103 (by omega) rfl) (fun i => W_j W103 rfl) (MWc_y (sz2 := (M104.2.1 39 2).toInt) g10 W87 W96 (by omega) (by omega) rfl z_95 (by omega) (by omega) (by omega) (by omega) ⟨by omega, x_eq_1.mp (by omega)⟩)) (by omega)
set_option maxRecDepth 4000 in
set_option maxHeartbeats 0 in
theorem E_16 {X : mm_X} {d : Nat} {M : mm_M} {Q : Option Value → mm_M → Prop} {p : Nat} {c : Int32} {f : Int32} {t : Int32} {sg : x_S} {ca : Int} {K : x_Kn} (hX : g_X X) (hd : 14 ≤ d) (hG : g_G M) (hp : p = 49 ∨ p = 58) (q1 : 0 ≤ c.toInt) (q2 : c.toInt < ca) (q3 : ca ≤ 30) (q4 : 0 ≤ f.toInt) (q5 : f.toInt < sg.2.1) (q6 : PLs M p sg) (q7 : KST M 12 13 14 15 ca sg K) (h : ∀ (M1 : mm_M), g_G M1 → FR md_m M M1 → (MS M1 (x_mt (x_hf sg K c.toInt f.toInt) t.toInt K.2.2.2 (x_mwf sg f.toInt (K.1 (c.toInt).toNat) K.2.2.2) 0 0) (x_wof sg f.toInt)) → Q (none) M1) : mm_T X d 16 0 [.ref 39, .ref p, .ref 11, .int c, .int f, .int t, .null, .null, .null] [] M Q := by
  have F0 : FR md_m M M := FR.rf
  have z_113 := q6.2.1
  have z_114 := q6.2.2.1
  have z_115 := q6.2.2.2.1
  have z_116 := q6.1
  have z_117 := z_116.1
  have z_118 := z_116.2.1
  have z_119 := z_116.2.2.1
  have z_120 := z_116.2.2.2.1
  have z_121 := z_116.2.2.2.2.1
  have z_122 := z_116.2.2.2.2.2.1
  have b_123 := g_b hG (a := p) (i := 3) (lo := 0) (hi := 12) (by rcases hp with rfl | rfl <;> rfl) (by rcases hp with rfl | rfl <;> rfl)
  have z_124 := q6.1.2.2.2.2.2.2.2 f.toInt (by omega) (by omega)
  have b_125 := g_b hG (a := 39) (i := 2) (lo := 0) (hi := 12) rfl rfl
  refine to_an (pc := 0) rw_16_0 rfl (s_gR (pc := 1) rw_16_1 hG rfl (v := 12) rfl (to_in (pc := 4) rw_16_4 rfl (s_lalE (pc := 5) rw_16_5 hG rfl (n := 30) rfl (A := c.toInt) rfl (by omega) (by omega) (fun l126 w_127 => ?_))))
  have z_128 : l126 = K.1 (c.toInt).toNat := KST_lc (K := K) q7 (by omega) (by omega) w_127
  refine to_an (pc := 6) rw_16_6 rfl (to_i (pc := 7) rw_16_7 rfl (s_v (pc := 9) rw_16_9 (dp0 hd (by decide)) (ls0 := [.ref p, .int f]) rfl (Nat.le_of_ble_eq_true rfl) (Nat.le_of_ble_eq_true rfl) rfl (to_rc rfl rfl rfl (g_o hG (by rcases hp with rfl | rfl <;> rfl))) rfl (to_an (pc := 0) rw_48_0 rfl (s_gR (pc := 1) rw_48_1 hG (by rcases hp with rfl | rfl <;> rfl) (v := (p + 3)) (by rcases hp with rfl | rfl <;> rfl) (to_in (pc := 4) rw_48_4 rfl (s_ial (pc := 5) rw_48_5 hG (by rcases hp with rfl | rfl <;> rfl) (n := 8) (by rcases hp with rfl | rfl <;> rfl) (by rcases hp with rfl | rfl <;> rfl) (A := f.toInt) rfl (by omega) (by omega) (lo := 0) (hi := 59) (by rcases hp with rfl | rfl <;> rfl) (by rcases hp with rfl | rfl <;> rfl) (fun v129 w_130 _ _ => ?_)))))))
  have z_131 := PLs_r q6 3 (by decide) (by decide) (k := f.toInt) (by omega) (by omega) w_130
  refine to_an (pc := 6) rw_48_6 rfl (s_gR (pc := 7) rw_48_7 hG (by rcases hp with rfl | rfl <;> rfl) (v := (p + 4)) (by rcases hp with rfl | rfl <;> rfl) (to_in (pc := 10) rw_48_10 rfl (s_ial (pc := 11) rw_48_11 hG (by rcases hp with rfl | rfl <;> rfl) (n := 8) (by rcases hp with rfl | rfl <;> rfl) (by rcases hp with rfl | rfl <;> rfl) (A := f.toInt) rfl (by omega) (by omega) (lo := 0) (hi := 63) (by rcases hp with rfl | rfl <;> rfl) (by rcases hp with rfl | rfl <;> rfl) (fun v132 w_133 _ _ => ?_))))
  have z_134 := PLs_r q6 4 (by decide) (by decide) (k := f.toInt) (by omega) (by omega) w_133
  refine s_s (pc := 12) rw_48_12 (dp1 hd (by decide)) (ls0 := [.int v129, .int v132]) rfl (Nat.le_of_ble_eq_true rfl) (Nat.le_of_ble_eq_true rfl) rfl (to_rcs rfl rfl) rfl (to_cl (pc := 0) rw_144_0 rfl (x := (1 : Int64)) rfl (to_in (pc := 1) rw_144_1 rfl (to_in (pc := 2) rw_144_2 rfl (s_sub (pc := 3) rw_144_3 (A := v132.toInt) (B := v129.toInt) rfl rfl (by omega) (fun v135 e136 => to_c (pc := 4) rw_144_4 (x := (1 : Int32)) rfl rfl (s_add (pc := 5) rw_144_5 (A := v135.toInt) (B := 1) rfl rfl (by omega) (fun v137 e138 => to_2s (pc := 6) rw_144_6 (v := ((1 : Int64) <<< (v137.toInt64 &&& 63))) rfl (to_cl (pc := 7) rw_144_7 rfl (x := (1 : Int64)) rfl (to_2l (pc := 8) rw_144_8 (v := (((1 : Int64) <<< (v137.toInt64 &&& 63)) - (1 : Int64))) rfl (to_in (pc := 9) rw_144_9 rfl (to_2s (pc := 10) rw_144_10 (v := ((((1 : Int64) <<< (v137.toInt64 &&& 63)) - (1 : Int64)) <<< (v129.toInt64 &&& 63))) rfl ?_)))))))))))
  refine to_rl (pc := 11) rw_144_11 (to_rl (pc := 15) rw_48_15 (to_2l (pc := 12) rw_16_12 (v := (l126 &&& ((((1 : Int64) <<< (v137.toInt64 &&& 63)) - (1 : Int64)) <<< (v129.toInt64 &&& 63)))) rfl (to_ls (pc := 13) rw_16_13 (ls2 := [.ref 39, .ref p, .ref 11, .int c, .int f, .int t, .long (l126 &&& ((((1 : Int64) <<< (v137.toInt64 &&& 63)) - (1 : Int64)) <<< (v129.toInt64 &&& 63))), .null, .null]) rfl rfl (to_an (pc := 15) rw_16_15 rfl (to_c (pc := 16) rw_16_16 (x := (0 : Int32)) rfl rfl (s_pI (pc := 17) rw_16_17 hG rfl (fun M140 W139 => ?_)))))))
  have hG141 := g_w hG W139 (A := 0) rfl (lo := 0) (hi := 12) rfl rfl (by omega) (by decide)
  have F142 := FR.w F0 W139 (show 39 ≤ 39 ∧ 39 ≤ 41 by decide)
  refine to_c (pc := 20) rw_16_20 (x := (0 : Int32)) rfl rfl (to_is (pc := 21) rw_16_21 (ls2 := [.ref 39, .ref p, .ref 11, .int c, .int f, .int t, .long (l126 &&& ((((1 : Int64) <<< (v137.toInt64 &&& 63)) - (1 : Int64)) <<< (v129.toInt64 &&& 63))), .null, .int (0 : Int32)]) rfl rfl ?_)
  have k_143 : (0 : Int32).toInt = 0 := rfl
  have c_144 : M140.2.1 39 2 = (0 : Int32) := (W_e W139)
  have t_145 : (M140.2.1 39 2).toInt = (0 : Int32).toInt := congrArg Int32.toInt c_144
  have j_146 := (PLs_f (fun a i z => W_n W139 (by /-r39,2-/ omega) rfl) q6)
  have kn_147 : KST M140 12 13 14 15 ca sg K := KST_f (fun i => (W_j W139 rfl)) (fun i => (W_n W139 (by omega) rfl)) (fun i => (W_n W139 (by omega) rfl)) (fun i => (W_j W139 rfl)) q7
  have z_148 : (l126 &&& ((((1 : Int64) <<< (v137.toInt64 &&& 63)) - (1 : Int64)) <<< (v129.toInt64 &&& 63))) = (x_hf sg K c.toInt f.toInt) := (by rw [x_bw_e (v := v137) (f := v129) (a := x_row sg 3 f.toInt) (l := x_row sg 4 f.toInt) (by omega) (by omega), z_128] : (l126 &&& ((((1 : Int64) <<< (v137.toInt64 &&& 63)) - (1 : Int64)) <<< (v129.toInt64 &&& 63))) = K.1 (c.toInt).toNat &&& x_bw (x_row sg 3 f.toInt) (x_row sg 4 f.toInt))
  exact (U_16_0 (p := p) (c := c) (f := f) (t := t) (sg := sg) (ca := ca) (K := K) hX hd hp q1 q2 q3 q4 q5 q6 q7 h ((12 - (0 : Int32).toInt).toNat + 1)) M140 (l126 &&& ((((1 : Int64) <<< (v137.toInt64 &&& 63)) - (1 : Int64)) <<< (v129.toInt64 &&& 63))) (0 : Int32) hG141 F142 (by omega) (by omega) (by omega) (by omega) (by omega) (by omega) j_146 kn_147 z_148 (MWc_0 (by omega) (by omega)) (by omega)
