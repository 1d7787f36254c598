theorem tg_139 {M M1 : mm_M} (F : FR (fun a i : Nat => a < 0) M M1) : ∀ a i : Nat, (81 ≤ a ∧ a ≤ 84) → M1.2.1 a i = M.2.1 a i := fun a i z => F_n F (show ¬ (a < 0) by omega) rfl
theorem tg_140 {M M1 : mm_M} (F : FR (fun a i : Nat => a < 0) M M1) : ∀ a i : Nat, 88 ≤ a ∧ a ≤ 89 → M1.2.1 a i = M.2.1 a i := fun a i z => F_n F (show ¬ (a < 0) by omega) rfl
theorem tg_141 : ∀ a i : Nat, (a < 0) → (39 ≤ a ∧ a ≤ 41) := fun a i z => by omega
set_option maxRecDepth 4000 in
set_option maxHeartbeats 0 in
theorem U_18_0 {X : mm_X} {d : Nat} {M : mm_M} {Q : Option Value → mm_M → Prop} {p : Nat} {c : Int32} {f : Int32} {t : Int32} {sg : x_S} {ca : Int} {K : x_Kn} (hX : g_X X) (hd : 3 ≤ d) (hp : p = 49 ∨ p = 58) (q1 : 0 ≤ c.toInt) (q2 : c.toInt < ca) (q3 : ca ≤ 30) (q4 : 0 ≤ f.toInt) (q5 : f.toInt < sg.2.1) (q6 : ¬ x_row sg 2 f.toInt = 3) (q7 : PLs M p sg) (q8 : g_W2 X) (q9 : KST M 12 13 14 15 ca sg K) (h : ∀ (M1 : mm_M), g_G M1 → FR md_m M M1 → (MVc M1 (x_mv9 sg f.toInt t.toInt (x_hf sg K c.toInt f.toInt))) → Q (none) M1) : ∀ nn9 : Nat, (∀ (N : mm_M) (u2 : Value) (u3 : Value) (y6 : Int64) (x8 : Int32) (u9 : Value) (u10 : Value), g_G N → FR md_m M N → (0 ≤ x8.toInt) → (x8.toInt ≤ 24) → (x8.toInt ≤ x_row sg 5 f.toInt) → (0 ≤ (N.2.1 39 6).toInt) → ((N.2.1 39 6).toInt ≤ 24) → ((N.2.1 39 6).toInt ≤ x8.toInt) → (PLs N p sg) → (y6 = (x_hf sg K c.toInt f.toInt)) → (MVL N sg f.toInt t.toInt (x_hf sg K c.toInt f.toInt) (x_row sg 5 f.toInt) x8.toInt) → 24 - x8.toInt < (nn9 : Int) → mm_T X d 18 33 [.ref 39, .ref p, u2, u3, .int f, .int t, .long y6, .null, .int x8, u9, u10] [] N Q) := by
  intro nn9
  induction nn9 with
  | zero =>
    intro N u2 u3 y6 x8 u9 u10 hG F0 g1 g2 g3 g4 g5 g6 g7 g8 g9 hm
    exfalso; omega
  | succ nn9 ih =>
    intro N u2 u3 y6 x8 u9 u10 hG F0 g1 g2 g3 g4 g5 g6 g7 g8 g9 hm
    have z_1 := g7.2.1
    have z_2 := g7.2.2.1
    have z_3 := g7.2.2.2.1
    have z_4 := g7.1
    have z_5 := z_4.1
    have z_6 := z_4.2.1
    have z_7 := z_4.2.2.1
    have z_8 := z_4.2.2.2.1
    have z_9 := z_4.2.2.2.2.1
    have z_10 := z_4.2.2.2.2.2.1
    have z_11 := g7.1.2.2.2.2.2.2.2 f.toInt (by omega) (by omega)
    have z_12 := x_bw_q (f := x_row sg 3 f.toInt) (l := x_row sg 4 f.toInt) (a := y6) (b := K.1 (c.toInt).toNat) (by omega) (by omega) (by omega) g8
    refine to_i (pc := 33) rw_18_33 rfl (to_an (pc := 35) rw_18_35 rfl (s_gR (pc := 36) rw_18_36 hG (by rcases hp with rfl | rfl <;> rfl) (v := (p + 5)) (by rcases hp with rfl | rfl <;> rfl) (to_i (pc := 39) rw_18_39 rfl (s_ial (pc := 41) rw_18_41 hG (by rcases hp with rfl | rfl <;> rfl) (n := 8) (by rcases hp with rfl | rfl <;> rfl) (by rcases hp with rfl | rfl <;> rfl) (A := f.toInt) rfl (by omega) (by omega) (lo := 0) (hi := 24) (by rcases hp with rfl | rfl <;> rfl) (by rcases hp with rfl | rfl <;> rfl) (fun v13 w_14 _ _ => ?_)))))
    have z_15 := PLs_r g7 5 (by decide) (by decide) (k := f.toInt) (by omega) (by omega) w_14
    refine b_cge (pc := 42) rw_18_42 (A := x8.toInt) (B := v13.toInt) rfl rfl (fun h16 => ?_) (fun h16 => ?_)
    · refine to_rv (pc := 130) rw_18_130 ?_
      exact h N hG F0 (MVL_x g9 (by omega))
    · refine to_an (pc := 45) rw_18_45 rfl (to_i (pc := 46) rw_18_46 rfl (to_i (pc := 48) rw_18_48 rfl (s_v (pc := 50) rw_18_50 (dp0 hd (by decide)) (ls0 := [.ref p, .int f, .int x8, .null, .null]) rfl (Nat.le_of_ble_eq_true rfl) (Nat.le_of_ble_eq_true rfl) rfl (to_rc rfl rfl rfl (g_o hG (by rcases hp with rfl | rfl <;> rfl))) rfl (E_49 hX (dp1 hd (by decide)) hG hp g7 q8 (p := p) (f := f) (v := x8) (sg := sg) (fun r17 M21 hG19 F18 p_20 => ?_)))))
      have F22 := FR.c F0 F18 tg_141
      refine to_ls (pc := 53) rw_18_53 (ls2 := [.ref 39, .ref p, u2, u3, .int f, .int t, .long y6, .null, .int x8, .long r17, .null]) rfl rfl (to_l (pc := 55) rw_18_55 rfl rfl rfl (to_l (pc := 57) rw_18_57 rfl rfl rfl (to_2l (pc := 59) rw_18_59 (v := (y6 &&& r17)) rfl (to_l (pc := 60) rw_18_60 rfl rfl rfl (s_lcmpE (pc := 62) rw_18_62 (fun v23 e24 => ?_))))))
      have b_25 := x_eq_b (x := (y6 &&& r17)) (y := r17)
      have z_26 : x_eq ((x_hf sg K c.toInt f.toInt) &&& (x_cd sg f.toInt x8.toInt)) (x_cd sg f.toInt x8.toInt) = x_eq (y6 &&& r17) r17 := by rw [g8, p_20]
      refine b_ine (pc := 63) rw_18_63 (A := v23.toInt) rfl (fun h27 => ?_) (fun h27 => ?_)
      · refine s_inc (pc := 124) rw_18_124 (ls2 := fun v => [.ref 39, .ref p, u2, u3, .int f, .int t, .long y6, .null, .int v, .long r17, .null]) rfl rfl (fun _ => rfl) (A := x8.toInt) (B := 1) rfl rfl (by omega) (fun v28 e29 => to_go (pc := 127) rw_18_127 ?_)
        have c_30 : M21.2.1 39 6 = (N.2.1 39 6) := (F_n F18 (show ¬ (39 < 0) by decide) rfl)
        have t_31 : (M21.2.1 39 6).toInt = (N.2.1 39 6).toInt := congrArg Int32.toInt c_30
        have j_32 := (PLs_f (fun a i z => F_n F18 (show ¬ (a < 0) by omega) rfl) g7)
        have c_33 : M21.2.1 39 4 = (N.2.1 39 4) := (F_n F18 (show ¬ (39 < 0) by decide) rfl)
        have t_34 : (M21.2.1 39 4).toInt = (N.2.1 39 4).toInt := congrArg Int32.toInt c_33
        have c_35 : M21.2.1 39 5 = (N.2.1 39 5) := (F_n F18 (show ¬ (39 < 0) by decide) rfl)
        have t_36 : (M21.2.1 39 5).toInt = (N.2.1 39 5).toInt := congrArg Int32.toInt c_35
        exact ih M21 (u2) (u3) y6 v28 (.long r17) (.null) hG19 F22 (by omega) (by omega) (by omega) (by omega) (by omega) (by omega) j_32 g8 (MVL_n g9 (fun a i z => (F_n F18 (show ¬ (a < 0) by omega) rfl)) (by omega) (by omega) (by omega) (x_mc_n (by omega))) (by omega)
      · refine to_l (pc := 66) rw_18_66 rfl rfl rfl (to_l (pc := 68) rw_18_68 rfl rfl rfl (to_cl (pc := 70) rw_18_70 rfl (x := (-1 : Int64)) rfl (to_2l (pc := 73) rw_18_73 (v := (r17 ^^^ (-1 : Int64))) rfl (to_2l (pc := 74) rw_18_74 (v := (y6 &&& (r17 ^^^ (-1 : Int64)))) rfl (s_s (pc := 75) rw_18_75 (dp0 hd (by decide)) (ls0 := [.long (y6 &&& (r17 ^^^ (-1 : Int64))), .null]) rfl (Nat.le_of_ble_eq_true rfl) (Nat.le_of_ble_eq_true rfl) rfl (to_rcs rfl rfl) rfl ?_)))))
        have z_37 := l_and_l (y := (r17 ^^^ (-1 : Int64))) z_12
        refine E_248 hX (dp1 hd (by decide)) hG19 (by omega) (by omega) (x := (y6 &&& (r17 ^^^ (-1 : Int64)))) (fun r38 M42 hG40 F39 p_41 => ?_)
        have F43 := FR.c F22 F39 tg_141
        have z_44 : ((x_ct ((x_hf sg K c.toInt f.toInt) &&& ((x_cd sg f.toInt x8.toInt) ^^^ (-1 : Int64))).toInt.toNat 62 : Nat) : Int) = ((x_ct ((y6 &&& (r17 ^^^ (-1 : Int64)))).toInt.toNat 62 : Nat) : Int) := by rw [g8, p_20]
        refine to_i (pc := 78) rw_18_78 rfl (b_cgt (pc := 80) rw_18_80 (A := r38.toInt) (B := t.toInt) rfl rfl (fun h45 => ?_) (fun h45 => ?_))
        · refine s_inc (pc := 124) rw_18_124 (ls2 := fun v => [.ref 39, .ref p, u2, u3, .int f, .int t, .long y6, .null, .int v, .long r17, .null]) rfl rfl (fun _ => rfl) (A := x8.toInt) (B := 1) rfl rfl (by omega) (fun v46 e47 => to_go (pc := 127) rw_18_127 ?_)
          have c_48 : M42.2.1 39 6 = (N.2.1 39 6) := (F_n F39 (show ¬ (39 < 0) by decide) (F_n F18 (show ¬ (39 < 0) by decide) rfl))
          have t_49 : (M42.2.1 39 6).toInt = (N.2.1 39 6).toInt := congrArg Int32.toInt c_48
          have j_50 := (PLs_f (fun a i z => F_n F39 (show ¬ (a < 0) by omega) rfl) (PLs_f (fun a i z => F_n F18 (show ¬ (a < 0) by omega) rfl) g7))
          have c_51 : M42.2.1 39 4 = (N.2.1 39 4) := (F_n F39 (show ¬ (39 < 0) by decide) (F_n F18 (show ¬ (39 < 0) by decide) rfl))
          have t_52 : (M42.2.1 39 4).toInt = (N.2.1 39 4).toInt := congrArg Int32.toInt c_51
          have c_53 : M42.2.1 39 5 = (N.2.1 39 5) := (F_n F39 (show ¬ (39 < 0) by decide) (F_n F18 (show ¬ (39 < 0) by decide) rfl))
          have t_54 : (M42.2.1 39 5).toInt = (N.2.1 39 5).toInt := congrArg Int32.toInt c_53
          exact ih M42 (u2) (u3) y6 v46 (.long r17) (.null) hG40 F43 (by omega) (by omega) (by omega) (by omega) (by omega) (by omega) j_50 g8 (MVL_n g9 (fun a i z => (F_n F39 (show ¬ (a < 0) by omega) (F_n F18 (show ¬ (a < 0) by omega) rfl))) (by omega) (by omega) (by omega) (x_mc_m (by omega))) (by omega)
        · refine to_an (pc := 83) rw_18_83 rfl (to_dupr (pc := 84) rw_18_84 ?_)
          have c_55 : M42.2.1 39 6 = (N.2.1 39 6) := (F_n F39 (show ¬ (39 < 0) by decide) (F_n F18 (show ¬ (39 < 0) by decide) rfl))
          refine tt_gI (pc := 85) rw_18_85 (g_o hG40 rfl) (v := (N.2.1 39 6)) c_55 (to_c (pc := 88) rw_18_88 (x := (1 : Int32)) rfl rfl (s_add (pc := 89) rw_18_89 (A := (N.2.1 39 6).toInt) (B := 1) rfl rfl (by omega) (fun v56 e57 => s_pI (pc := 90) rw_18_90 hG40 rfl (fun M59 W58 => ?_))))
          have hG60 := g_wf hG40 W58 rfl rfl (by decide)
          have F61 := FR.w F43 W58 (show 39 ≤ 39 ∧ 39 ≤ 41 by decide)
          refine to_an (pc := 93) rw_18_93 rfl (to_an (pc := 94) rw_18_94 rfl ?_)
          have c_62 : M59.2.1 39 6 = v56 := (W_e W58)
          refine tt_gI (pc := 95) rw_18_95 (g_o hG60 rfl) (v := v56) c_62 (to_c (pc := 98) rw_18_98 (x := (1 : Int32)) rfl rfl (b_cne (pc := 99) rw_18_99 (A := v56.toInt) (B := 1) rfl rfl (fun h63 => ?_) (fun h63 => ?_)))
          · refine to_c (pc := 107) rw_18_107 (x := (-1 : Int32)) rfl rfl (s_pI (pc := 108) rw_18_108 hG60 rfl (fun M65 W64 => ?_))
            have hG66 := g_wf hG60 W64 rfl rfl (by decide)
            have F67 := FR.w F61 W64 (show 39 ≤ 39 ∧ 39 ≤ 41 by decide)
            refine to_an (pc := 111) rw_18_111 rfl (to_dupr (pc := 112) rw_18_112 ?_)
            have c_68 : M65.2.1 39 5 = (N.2.1 39 5) := (W_n W64 (by decide) (W_n W58 (by decide) (F_n F39 (show ¬ (39 < 0) by decide) (F_n F18 (show ¬ (39 < 0) by decide) rfl))))
            refine tt_gI (pc := 113) rw_18_113 (g_o hG66 rfl) (v := (N.2.1 39 5)) c_68 (to_c (pc := 116) rw_18_116 (x := (1 : Int32)) rfl rfl (to_i (pc := 117) rw_18_117 rfl (s_opE (pc := 119) rw_18_119 (w := (1 : Int32) <<< x8) rfl (fun v69 e70 => s_opE (pc := 120) rw_18_120 (w := (N.2.1 39 5) ||| v69) rfl (fun v71 e72 => s_pI (pc := 121) rw_18_121 hG66 rfl (fun M74 W73 => ?_))))))
            have hG75 := g_wf hG66 W73 rfl rfl (by decide)
            have F76 := FR.w F67 W73 (show 39 ≤ 39 ∧ 39 ≤ 41 by decide)
            refine s_inc (pc := 124) rw_18_124 (ls2 := fun v => [.ref 39, .ref p, u2, u3, .int f, .int t, .long y6, .null, .int v, .long r17, .null]) rfl rfl (fun _ => rfl) (A := x8.toInt) (B := 1) rfl rfl (by omega) (fun v77 e78 => to_go (pc := 127) rw_18_127 ?_)
            have c_79 : M74.2.1 39 6 = v56 := (W_n W73 (by decide) (W_n W64 (by decide) c_62))
            have t_80 : (M74.2.1 39 6).toInt = v56.toInt := congrArg Int32.toInt c_79
            have j_81 := (PLs_f (fun a i z => W_n W73 (by /-r39,5-/ omega) rfl) (PLs_f (fun a i z => W_n W64 (by /-r39,4-/ omega) rfl) (PLs_f (fun a i z => W_n W58 (by /-r39,6-/ omega) rfl) (PLs_f (fun a i z => F_n F39 (show ¬ (a < 0) by omega) rfl) (PLs_f (fun a i z => F_n F18 (show ¬ (a < 0) by omega) rfl) g7)))))
            have c_82 : M74.2.1 39 4 = (-1 : Int32) := (W_n W73 (by decide) (W_e W64))
            have k_83 : (-1 : Int32).toInt = -1 := rfl
            have t_84 : (M74.2.1 39 4).toInt = (-1 : Int32).toInt := congrArg Int32.toInt c_82
            have c_85 : M74.2.1 39 5 = v71 := (W_e W73)
            have t_86 : (M74.2.1 39 5).toInt = v71.toInt := congrArg Int32.toInt c_85
            exact ih M74 (u2) (u3) y6 v77 (.long r17) (.null) hG75 F76 (by omega) (by omega) (by omega) (by omega) (by omega) (by omega) j_81 g8 (MVL_y g9 (by omega) (by omega) (by omega) (x_mc_y (by omega) (by omega)) (by omega) (fun z => by omega) (fun z => by omega) e70 rfl (e72.trans (c_85).symm)) (by omega)
          · refine to_i (pc := 102) rw_18_102 rfl (to_go (pc := 104) rw_18_104 (s_pI (pc := 108) rw_18_108 hG60 rfl (fun M88 W87 => ?_)))
            have hG89 := g_wf hG60 W87 rfl rfl (by decide)
            have F90 := FR.w F61 W87 (show 39 ≤ 39 ∧ 39 ≤ 41 by decide)
            refine to_an (pc := 111) rw_18_111 rfl (to_dupr (pc := 112) rw_18_112 ?_)
            have c_91 : M88.2.1 39 5 = (N.2.1 39 5) := (W_n W87 (by decide) (W_n W58 (by decide) (F_n F39 (show ¬ (39 < 0) by decide) (F_n F18 (show ¬ (39 < 0) by decide) rfl))))
            refine tt_gI (pc := 113) rw_18_113 (g_o hG89 rfl) (v := (N.2.1 39 5)) c_91 (to_c (pc := 116) rw_18_116 (x := (1 : Int32)) rfl rfl (to_i (pc := 117) rw_18_117 rfl (s_opE (pc := 119) rw_18_119 (w := (1 : Int32) <<< x8) rfl (fun v92 e93 => s_opE (pc := 120) rw_18_120 (w := (N.2.1 39 5) ||| v92) rfl (fun v94 e95 => s_pI (pc := 121) rw_18_121 hG89 rfl (fun M97 W96 => ?_))))))
            have hG98 := g_wf hG89 W96 rfl rfl (by decide)
            have F99 := FR.w F90 W96 (show 39 ≤ 39 ∧ 39 ≤ 41 by decide)
            refine s_inc (pc := 124) rw_18_124 (ls2 := fun v => [.ref 39, .ref p, u2, u3, .int f, .int t, .long y6, .null, .int v, .long r17, .null]) rfl rfl (fun _ => rfl) (A := x8.toInt) (B := 1) rfl rfl (by omega) (fun v100 e101 => to_go (pc := 127) rw_18_127 ?_)
            have c_102 : M97.2.1 39 6 = v56 := (W_n W96 (by decide) (W_n W87 (by decide) c_62))
            have t_103 : (M97.2.1 39 6).toInt = v56.toInt := congrArg Int32.toInt c_102
            have j_104 := (PLs_f (fun a i z => W_n W96 (by /-r39,5-/ omega) rfl) (PLs_f (fun a i z => W_n W87 (by /-r39,4-/ omega) rfl) (PLs_f (fun a i z => W_n W58 (by /-r39,6-/ omega) rfl) (PLs_f (fun a i z => F_n F39 (show ¬ (a < 0) by omega) rfl) (PLs_f (fun a i z => F_n F18 (show ¬ (a < 0) by omega) rfl) g7)))))
            have c_105 : M97.2.1 39 4 = x8 := (W_n W96 (by decide) (W_e W87))
            have t_106 : (M97.2.1 39 4).toInt = x8.toInt := congrArg Int32.toInt c_105
            have c_107 : M97.2.1 39 5 = v94 := (W_e W96)
            have t_108 : (M97.2.1 39 5).toInt = v94.toInt := congrArg Int32.toInt c_107
            exact ih M97 (u2) (u3) y6 v100 (.long r17) (.null) hG98 F99 (by omega) (by omega) (by omega) (by omega) (by omega) (by omega) j_104 g8 (MVL_y g9 (by omega) (by omega) (by omega) (x_mc_y (by omega) (by omega)) (by omega) (fun z => by omega) (fun z => by omega) e93 rfl (e95.trans (c_107).symm)) (by omega)
set_option maxRecDepth 4000 in
set_option maxHeartbeats 0 in
theorem E_18 {X : mm_X} {d : Nat} {M : mm_M} {Q : Option Value → mm_M → Prop} {p : Nat} {c : Int32} {f : Int32} {t : Int32} {sg : x_S} {ca : Int} {K : x_Kn} (hX : g_X X) (hd : 3 ≤ d) (hG : g_G M) (hp : p = 49 ∨ p = 58) (q1 : 0 ≤ c.toInt) (q2 : c.toInt < ca) (q3 : ca ≤ 30) (q4 : 0 ≤ f.toInt) (q5 : f.toInt < sg.2.1) (q6 : ¬ x_row sg 2 f.toInt = 3) (q7 : PLs M p sg) (q8 : g_W2 X) (q9 : KST M 12 13 14 15 ca sg K) (h : ∀ (M1 : mm_M), g_G M1 → FR md_m M M1 → (MVc M1 (x_mv9 sg f.toInt t.toInt (x_hf sg K c.toInt f.toInt))) → Q (none) M1) : mm_T X d 18 0 [.ref 39, .ref p, .ref 11, .int c, .int f, .int t, .null, .null, .null, .null, .null] [] M Q := by
  have F0 : FR md_m M M := FR.rf
  have z_109 := q7.2.1
  have z_110 := q7.2.2.1
  have z_111 := q7.2.2.2.1
  have z_112 := q7.1
  have z_113 := z_112.1
  have z_114 := z_112.2.1
  have z_115 := z_112.2.2.1
  have z_116 := z_112.2.2.2.1
  have z_117 := z_112.2.2.2.2.1
  have z_118 := z_112.2.2.2.2.2.1
  have z_119 := q7.1.2.2.2.2.2.2.2 f.toInt (by omega) (by omega)
  refine to_an (pc := 0) rw_18_0 rfl (s_gR (pc := 1) rw_18_1 hG rfl (v := 12) rfl (to_in (pc := 4) rw_18_4 rfl (s_lalE (pc := 5) rw_18_5 hG rfl (n := 30) rfl (A := c.toInt) rfl (by omega) (by omega) (fun l120 w_121 => ?_))))
  have z_122 : l120 = K.1 (c.toInt).toNat := KST_lc (K := K) q9 (by omega) (by omega) w_121
  refine to_an (pc := 6) rw_18_6 rfl (to_i (pc := 7) rw_18_7 rfl (s_v (pc := 9) rw_18_9 (dp0 hd (by decide)) (ls0 := [.ref p, .int f]) rfl (Nat.le_of_ble_eq_true rfl) (Nat.le_of_ble_eq_true rfl) rfl (to_rc rfl rfl rfl (g_o hG (by rcases hp with rfl | rfl <;> rfl))) rfl (to_an (pc := 0) rw_48_0 rfl (s_gR (pc := 1) rw_48_1 hG (by rcases hp with rfl | rfl <;> rfl) (v := (p + 3)) (by rcases hp with rfl | rfl <;> rfl) (to_in (pc := 4) rw_48_4 rfl (s_ial (pc := 5) rw_48_5 hG (by rcases hp with rfl | rfl <;> rfl) (n := 8) (by rcases hp with rfl | rfl <;> rfl) (by rcases hp with rfl | rfl <;> rfl) (A := f.toInt) rfl (by omega) (by omega) (lo := 0) (hi := 59) (by rcases hp with rfl | rfl <;> rfl) (by rcases hp with rfl | rfl <;> rfl) (fun v123 w_124 _ _ => ?_)))))))
  have z_125 := PLs_r q7 3 (by decide) (by decide) (k := f.toInt) (by omega) (by omega) w_124
  refine to_an (pc := 6) rw_48_6 rfl (s_gR (pc := 7) rw_48_7 hG (by rcases hp with rfl | rfl <;> rfl) (v := (p + 4)) (by rcases hp with rfl | rfl <;> rfl) (to_in (pc := 10) rw_48_10 rfl (s_ial (pc := 11) rw_48_11 hG (by rcases hp with rfl | rfl <;> rfl) (n := 8) (by rcases hp with rfl | rfl <;> rfl) (by rcases hp with rfl | rfl <;> rfl) (A := f.toInt) rfl (by omega) (by omega) (lo := 0) (hi := 63) (by rcases hp with rfl | rfl <;> rfl) (by rcases hp with rfl | rfl <;> rfl) (fun v126 w_127 _ _ => ?_))))
  have z_128 := PLs_r q7 4 (by decide) (by decide) (k := f.toInt) (by omega) (by omega) w_127
  refine s_s (pc := 12) rw_48_12 (dp1 hd (by decide)) (ls0 := [.int v123, .int v126]) rfl (Nat.le_of_ble_eq_true rfl) (Nat.le_of_ble_eq_true rfl) rfl (to_rcs rfl rfl) rfl (to_cl (pc := 0) rw_144_0 rfl (x := (1 : Int64)) rfl (to_in (pc := 1) rw_144_1 rfl (to_in (pc := 2) rw_144_2 rfl (s_sub (pc := 3) rw_144_3 (A := v126.toInt) (B := v123.toInt) rfl rfl (by omega) (fun v129 e130 => to_c (pc := 4) rw_144_4 (x := (1 : Int32)) rfl rfl (s_add (pc := 5) rw_144_5 (A := v129.toInt) (B := 1) rfl rfl (by omega) (fun v131 e132 => to_2s (pc := 6) rw_144_6 (v := ((1 : Int64) <<< (v131.toInt64 &&& 63))) rfl (to_cl (pc := 7) rw_144_7 rfl (x := (1 : Int64)) rfl (to_2l (pc := 8) rw_144_8 (v := (((1 : Int64) <<< (v131.toInt64 &&& 63)) - (1 : Int64))) rfl (to_in (pc := 9) rw_144_9 rfl (to_2s (pc := 10) rw_144_10 (v := ((((1 : Int64) <<< (v131.toInt64 &&& 63)) - (1 : Int64)) <<< (v123.toInt64 &&& 63))) rfl ?_)))))))))))
  refine to_rl (pc := 11) rw_144_11 (to_rl (pc := 15) rw_48_15 (to_2l (pc := 12) rw_18_12 (v := (l120 &&& ((((1 : Int64) <<< (v131.toInt64 &&& 63)) - (1 : Int64)) <<< (v123.toInt64 &&& 63)))) rfl (to_ls (pc := 13) rw_18_13 (ls2 := [.ref 39, .ref p, .ref 11, .int c, .int f, .int t, .long (l120 &&& ((((1 : Int64) <<< (v131.toInt64 &&& 63)) - (1 : Int64)) <<< (v123.toInt64 &&& 63))), .null, .null, .null, .null]) rfl rfl (to_an (pc := 15) rw_18_15 rfl (to_c (pc := 16) rw_18_16 (x := (-1 : Int32)) rfl rfl (s_pI (pc := 17) rw_18_17 hG rfl (fun M134 W133 => ?_)))))))
  have hG135 := g_wf hG W133 rfl rfl (by decide)
  have F136 := FR.w F0 W133 (show 39 ≤ 39 ∧ 39 ≤ 41 by decide)
  refine to_an (pc := 20) rw_18_20 rfl (to_c (pc := 21) rw_18_21 (x := (0 : Int32)) rfl rfl (s_pI (pc := 22) rw_18_22 hG135 rfl (fun M138 W137 => ?_)))
  have hG139 := g_wf hG135 W137 rfl rfl (by decide)
  have F140 := FR.w F136 W137 (show 39 ≤ 39 ∧ 39 ≤ 41 by decide)
  refine to_an (pc := 25) rw_18_25 rfl (to_c (pc := 26) rw_18_26 (x := (0 : Int32)) rfl rfl (s_pI (pc := 27) rw_18_27 hG139 rfl (fun M142 W141 => ?_)))
  have hG143 := g_wf hG139 W141 rfl rfl (by decide)
  have F144 := FR.w F140 W141 (show 39 ≤ 39 ∧ 39 ≤ 41 by decide)
  refine to_c (pc := 30) rw_18_30 (x := (0 : Int32)) rfl rfl (to_is (pc := 31) rw_18_31 (ls2 := [.ref 39, .ref p, .ref 11, .int c, .int f, .int t, .long (l120 &&& ((((1 : Int64) <<< (v131.toInt64 &&& 63)) - (1 : Int64)) <<< (v123.toInt64 &&& 63))), .null, .int (0 : Int32), .null, .null]) rfl rfl ?_)
  have k_145 : (0 : Int32).toInt = 0 := rfl
  have c_146 : M142.2.1 39 6 = (0 : Int32) := (W_e W141)
  have t_147 : (M142.2.1 39 6).toInt = (0 : Int32).toInt := congrArg Int32.toInt c_146
  have j_148 := (PLs_f (fun a i z => W_n W141 (by /-r39,6-/ omega) rfl) (PLs_f (fun a i z => W_n W137 (by /-r39,5-/ omega) rfl) (PLs_f (fun a i z => W_n W133 (by /-r39,4-/ omega) rfl) q7)))
  have z_149 : (l120 &&& ((((1 : Int64) <<< (v131.toInt64 &&& 63)) - (1 : Int64)) <<< (v123.toInt64 &&& 63))) = (x_hf sg K c.toInt f.toInt) := (by rw [x_bw_e (v := v131) (f := v123) (a := x_row sg 3 f.toInt) (l := x_row sg 4 f.toInt) (by omega) (by omega), z_122] : (l120 &&& ((((1 : Int64) <<< (v131.toInt64 &&& 63)) - (1 : Int64)) <<< (v123.toInt64 &&& 63))) = K.1 (c.toInt).toNat &&& x_bw (x_row sg 3 f.toInt) (x_row sg 4 f.toInt))
  have c_150 : M142.2.1 39 4 = (-1 : Int32) := (W_n W141 (by decide) (W_n W137 (by decide) (W_e W133)))
  have c_151 : M142.2.1 39 5 = (0 : Int32) := (W_n W141 (by decide) (W_e W137))
  exact (U_18_0 (p := p) (c := c) (f := f) (t := t) (sg := sg) (ca := ca) (K := K) hX hd hp q1 q2 q3 q4 q5 q6 q7 q8 q9 h ((24 - (0 : Int32).toInt).toNat + 1)) M142 (.ref 11) (.int c) (l120 &&& ((((1 : Int64) <<< (v131.toInt64 &&& 63)) - (1 : Int64)) <<< (v123.toInt64 &&& 63))) (0 : Int32) (.null) (.null) hG143 F144 (by omega) (by omega) (by omega) (by omega) (by omega) (by omega) j_148 z_149 (MVL_0 c_146 c_150 c_151 (by omega)) (by omega)
set_option maxRecDepth 4000 in
set_option maxHeartbeats 0 in
theorem U_240_0 {X : mm_X} {d : Nat} {M : mm_M} {Q : Option Value → mm_M → Prop} {c : Int32} {f : Int32} {t : Int32} {w : Int32} {sg : x_S} {ca : Int} {K : x_Kn} (hX : g_X X) (hd : 2 ≤ d) (q1 : 0 ≤ c.toInt) (q2 : c.toInt < ca) (q3 : ca ≤ 30) (q4 : 0 ≤ f.toInt) (q5 : f.toInt < sg.2.1) (q6 : ¬ x_row sg 2 f.toInt = 3) (q7 : 0 ≤ w.toInt) (q8 : w.toInt ≤ 2) (q9 : FA M) (q10 : PLk M sg) (q11 : W8 M) (q12 : KST M 96 98 97 95 ca sg K) (h : ∀ (r : Int32) (M1 : mm_M), g_G M1 → FR md_0 M M1 → (r.toInt = x_mvr (x_mv9 sg f.toInt t.toInt (x_hf sg K c.toInt f.toInt)) w.toInt) → Q (some (.int r)) M1) : ∀ nn9 : Nat, (∀ (N : mm_M) (u1 : Value) (y5 : Int64) (x7 : Int32) (x8 : Int32) (x9 : Int32) (x10 : Int32) (u11 : Value) (u12 : Value), g_G N → FR md_0 M N → (0 ≤ x10.toInt) → (x10.toInt ≤ 24) → (x10.toInt ≤ x_row sg 5 f.toInt) → (0 ≤ x8.toInt) → (x8.toInt ≤ 24) → (x8.toInt ≤ x10.toInt) → (FA N) → (PLk N sg) → (W8 N) → (y5 = (x_hf sg K c.toInt f.toInt)) → (x_mvl sg f.toInt t.toInt (x_hf sg K c.toInt f.toInt) (x_row sg 5 f.toInt - x10.toInt).toNat (x10.toInt).toNat (x8.toInt, x9.toInt, x7) = x_mv9 sg f.toInt t.toInt (x_hf sg K c.toInt f.toInt)) → 24 - x10.toInt < (nn9 : Int) → mm_T X d 239 20 [.ref 77, u1, .int f, .int t, .int w, .long y5, .null, .int x7, .int x8, .int x9, .int x10, u11, u12] [] N Q) := by
  intro nn9
  induction nn9 with
  | zero =>
    intro N u1 y5 x7 x8 x9 x10 u11 u12 hG F0 g1 g2 g3 g4 g5 g6 g7 g8 g9 g10 g11 hm
    exfalso; omega
  | succ nn9 ih =>
    intro N u1 y5 x7 x8 x9 x10 u11 u12 hG F0 g1 g2 g3 g4 g5 g6 g7 g8 g9 g10 g11 hm
    have z_1 := g8.2.1
    have z_2 := g8.2.2.1
    have z_3 := g8.2.2.2.1
    have z_4 := g8.1
    have z_5 := z_4.1
    have z_6 := z_4.2.1
    have z_7 := z_4.2.2.1
    have z_8 := z_4.2.2.2.1
    have z_9 := z_4.2.2.2.2.1
    have z_10 := z_4.2.2.2.2.2.1
    have b_11 := g_b hG (a := 77) (i := 11) (lo := 10) (hi := 60) rfl rfl
    have b_12 := g_b hG (a := 77) (i := 12) (lo := 0) (hi := 8) rfl rfl
    have b_13 := g_b hG (a := 77) (i := 13) (lo := 0) (hi := 12) rfl rfl
    have z_14 := g8.1.2.2.2.2.2.2.2 f.toInt (by omega) (by omega)
    have z_15 := x_bw_q (f := x_row sg 3 f.toInt) (l := x_row sg 4 f.toInt) (a := y5) (b := K.1 (c.toInt).toNat) (by omega) (by omega) (by omega) g10
    refine to_i (pc := 20) rw_240_20 rfl (to_an (pc := 22) rw_240_22 rfl (s_gR (pc := 23) rw_240_23 hG rfl (v := 84) rfl (to_in (pc := 26) rw_240_26 rfl (s_ial (pc := 27) rw_240_27 hG rfl (n := 16) rfl rfl (A := f.toInt) rfl (by omega) (by omega) (lo := 0) (hi := 24) rfl rfl (fun v16 w_17 _ _ => ?_)))))
    have z_18 := PLk_r g8 5 84 rfl (by decide) (by decide) (k := f.toInt) (by omega) (by omega) w_17
    refine b_cge (pc := 28) rw_240_28 (A := x10.toInt) (B := v16.toInt) rfl rfl (fun h19 => ?_) (fun h19 => ?_)
    · refine to_i (pc := 95) rw_240_95 rfl (b_ine (pc := 97) rw_240_97 (A := w.toInt) rfl (fun h20 => ?_) (fun h20 => ?_))
      · refine to_i (pc := 115) rw_240_115 rfl (to_c (pc := 117) rw_240_117 (x := (1 : Int32)) rfl rfl (b_cne (pc := 118) rw_240_118 (A := w.toInt) (B := 1) rfl rfl (fun h21 => ?_) (fun h21 => ?_)))
        · refine to_i (pc := 126) rw_240_126 rfl (to_r0 (pc := 128) rw_240_128 ?_)
          have z_22 := x_mvr_e (k := w.toInt) (r := x8.toInt) (x_mvl_x (by omega) g11) (by omega)
          exact h x8 N hG F0 (by omega)
        · refine to_i (pc := 121) rw_240_121 rfl (to_go (pc := 123) rw_240_123 (to_r0 (pc := 128) rw_240_128 ?_))
          have z_23 := x_mvr_e (k := w.toInt) (r := x7.toInt) (x_mvl_x (by omega) g11) (by omega)
          exact h x7 N hG F0 (by omega)
      · refine to_i (pc := 100) rw_240_100 rfl (to_c (pc := 102) rw_240_102 (x := (1 : Int32)) rfl rfl (b_cne (pc := 103) rw_240_103 (A := x8.toInt) (B := 1) rfl rfl (fun h24 => ?_) (fun h24 => ?_)))
        · refine to_c (pc := 111) rw_240_111 (x := (-1 : Int32)) rfl rfl (to_go (pc := 112) rw_240_112 (to_r0 (pc := 128) rw_240_128 ?_))
          have k_25 : (-1 : Int32).toInt = -1 := rfl
          have z_26 := x_mvr_e (k := w.toInt) (r := -1) (x_mvl_x (by omega) g11) (by omega)
          exact h (-1 : Int32) N hG F0 (by omega)
        · refine to_i (pc := 106) rw_240_106 rfl (to_go (pc := 108) rw_240_108 (to_r0 (pc := 128) rw_240_128 ?_))
          have z_27 := x_mvr_e (k := w.toInt) (r := x9.toInt) (x_mvl_x (by omega) g11) (by omega)
          exact h x9 N hG F0 (by omega)
    · refine to_an (pc := 31) rw_240_31 rfl (to_in (pc := 32) rw_240_32 rfl (to_i (pc := 33) rw_240_33 rfl (s_v (pc := 35) rw_240_35 (dp0 hd (by decide)) (ls0 := [.ref 77, .int f, .int x10]) rfl (Nat.le_of_ble_eq_true rfl) (Nat.le_of_ble_eq_true rfl) rfl (to_rc rfl rfl rfl (g_o hG rfl)) rfl (E_183 hX (dp1 hd (by decide)) hG (by omega) (by omega) (by omega) (by omega) (by omega) g7 g8 g9 (f := f) (v := x10) (sg := sg) (fun r28 M32 hG30 F29 p_31 => ?_)))))
      have F33 := FR.c F0 F29 tg_29
      refine to_ls (pc := 38) rw_240_38 (ls2 := [.ref 77, u1, .int f, .int t, .int w, .long y5, .null, .int x7, .int x8, .int x9, .int x10, .long r28, .null]) rfl rfl (to_l (pc := 40) rw_240_40 rfl rfl rfl (to_l (pc := 42) rw_240_42 rfl rfl rfl (to_cl (pc := 44) rw_240_44 rfl (x := (-1 : Int64)) rfl (to_2l (pc := 47) rw_240_47 (v := (y5 ^^^ (-1 : Int64))) rfl (to_2l (pc := 48) rw_240_48 (v := (r28 &&& (y5 ^^^ (-1 : Int64)))) rfl (to_cl (pc := 49) rw_240_49 rfl (x := (0 : Int64)) rfl (s_lcmpE (pc := 50) rw_240_50 (fun v34 e35 => ?_))))))))
      have b_36 := x_eq_b (x := (r28 &&& (y5 ^^^ (-1 : Int64)))) (y := (0 : Int64))
      have z_37 : x_eq ((x_hf sg K c.toInt f.toInt) &&& (x_cd sg f.toInt x10.toInt)) (x_cd sg f.toInt x10.toInt) = x_eq (r28 &&& (y5 ^^^ (-1 : Int64))) (0 : Int64) := by rw [x_dr_r, g10, p_31]
      refine b_ine (pc := 51) rw_240_51 (A := v34.toInt) rfl (fun h38 => ?_) (fun h38 => ?_)
      · refine s_inc (pc := 89) rw_240_89 (ls2 := fun v => [.ref 77, u1, .int f, .int t, .int w, .long y5, .null, .int x7, .int x8, .int x9, .int v, .long r28, .null]) rfl rfl (fun _ => rfl) (A := x10.toInt) (B := 1) rfl rfl (by omega) (fun v39 e40 => to_go (pc := 92) rw_240_92 ?_)
        have j_41 := (FA_f (tg_139 F29) g7)
        have j_42 := (PLk_f (tg_101 F29) g8)
        have j_43 := (W8_f (tg_140 F29) g9)
        exact ih M32 (u1) y5 x7 x8 x9 v39 (.long r28) (.null) hG30 F33 (by omega) (by omega) (by omega) (by omega) (by omega) (by omega) j_41 j_42 j_43 g10 (x_mvl_s (by omega) (by omega) (by omega) g11 (x_mvl_n (x_mc_n (by omega)) rfl)) (by omega)
      · refine to_l (pc := 54) rw_240_54 rfl rfl rfl (to_l (pc := 56) rw_240_56 rfl rfl rfl (to_cl (pc := 58) rw_240_58 rfl (x := (-1 : Int64)) rfl (to_2l (pc := 61) rw_240_61 (v := (r28 ^^^ (-1 : Int64))) rfl (to_2l (pc := 62) rw_240_62 (v := (y5 &&& (r28 ^^^ (-1 : Int64)))) rfl (s_s (pc := 63) rw_240_63 (dp0 hd (by decide)) (ls0 := [.long (y5 &&& (r28 ^^^ (-1 : Int64))), .null, .null, .null]) rfl (Nat.le_of_ble_eq_true rfl) (Nat.le_of_ble_eq_true rfl) rfl (to_rcs rfl rfl) rfl ?_)))))
        have z_44 := l_and_l (y := (r28 ^^^ (-1 : Int64))) z_15
        refine E_151l hX (dp1 hd (by decide)) hG30 (by omega) (x := (y5 &&& (r28 ^^^ (-1 : Int64)))) (fun r45 M49 hG47 F46 p_48 => ?_)
        have F50 := FR.c F33 F46 tg_29
        have z_51 : ((x_ct ((x_hf sg K c.toInt f.toInt) &&& ((x_cd sg f.toInt x10.toInt) ^^^ (-1 : Int64))).toInt.toNat 62 : Nat) : Int) = ((x_ct ((y5 &&& (r28 ^^^ (-1 : Int64)))).toInt.toNat 62 : Nat) : Int) := by rw [g10, p_31]
        refine to_in (pc := 66) rw_240_66 rfl (b_cle (pc := 67) rw_240_67 (A := r45.toInt) (B := t.toInt) rfl rfl (fun h52 => ?_) (fun h52 => ?_))
        · refine to_i (pc := 73) rw_240_73 rfl (to_c (pc := 75) rw_240_75 (x := (1 : Int32)) rfl rfl (to_i (pc := 76) rw_240_76 rfl (s_opE (pc := 78) rw_240_78 (w := (1 : Int32) <<< x10) rfl (fun v53 e54 => s_opE (pc := 79) rw_240_79 (w := x7 ||| v53) rfl (fun v55 e56 => to_is (pc := 80) rw_240_80 (ls2 := [.ref 77, u1, .int f, .int t, .int w, .long y5, .null, .int v55, .int x8, .int x9, .int x10, .long r28, .null]) rfl rfl (to_i (pc := 82) rw_240_82 rfl (to_is (pc := 84) rw_240_84 (ls2 := [.ref 77, u1, .int f, .int t, .int w, .long y5, .null, .int v55, .int x8, .int x10, .int x10, .long r28, .null]) rfl rfl (s_inc (pc := 86) rw_240_86 (ls2 := fun v => [.ref 77, u1, .int f, .int t, .int w, .long y5, .null, .int v55, .int v, .int x10, .int x10, .long r28, .null]) rfl rfl (fun _ => rfl) (A := x8.toInt) (B := 1) rfl rfl (by omega) (fun v57 e58 => s_inc (pc := 89) rw_240_89 (ls2 := fun v => [.ref 77, u1, .int f, .int t, .int w, .long y5, .null, .int v55, .int v57, .int x10, .int v, .long r28, .null]) rfl rfl (fun _ => rfl) (A := x10.toInt) (B := 1) rfl rfl (by omega) (fun v59 e60 => to_go (pc := 92) rw_240_92 ?_))))))))))
          have j_61 := (FA_f (tg_139 F46) (FA_f (tg_139 F29) g7))
          have j_62 := (PLk_f (tg_101 F46) (PLk_f (tg_101 F29) g8))
          have j_63 := (W8_f (tg_140 F46) (W8_f (tg_140 F29) g9))
          exact ih M49 (u1) y5 v55 v57 x10 v59 (.long r28) (.null) hG47 F50 (by omega) (by omega) (by omega) (by omega) (by omega) (by omega) j_61 j_62 j_63 g10 (x_mvl_s (by omega) (by omega) (by omega) g11 (x_mvl_w (x_mc_y (by omega) (by omega)) (by omega) (by omega) e54 rfl e56)) (by omega)
        · refine to_go (pc := 70) rw_240_70 (s_inc (pc := 89) rw_240_89 (ls2 := fun v => [.ref 77, u1, .int f, .int t, .int w, .long y5, .null, .int x7, .int x8, .int x9, .int v, .long r28, .null]) rfl rfl (fun _ => rfl) (A := x10.toInt) (B := 1) rfl rfl (by omega) (fun v64 e65 => to_go (pc := 92) rw_240_92 ?_))
          have j_66 := (FA_f (tg_139 F46) (FA_f (tg_139 F29) g7))
          have j_67 := (PLk_f (tg_101 F46) (PLk_f (tg_101 F29) g8))
          have j_68 := (W8_f (tg_140 F46) (W8_f (tg_140 F29) g9))
          exact ih M49 (u1) y5 x7 x8 x9 v64 (.long r28) (.null) hG47 F50 (by omega) (by omega) (by omega) (by omega) (by omega) (by omega) j_66 j_67 j_68 g10 (x_mvl_s (by omega) (by omega) (by omega) g11 (x_mvl_n (x_mc_m (by omega)) rfl)) (by omega)
set_option maxRecDepth 4000 in
set_option maxHeartbeats 0 in
theorem E_240 {X : mm_X} {d : Nat} {M : mm_M} {Q : Option Value → mm_M → Prop} {c : Int32} {f : Int32} {t : Int32} {w : Int32} {sg : x_S} {ca : Int} {K : x_Kn} (hX : g_X X) (hd : 2 ≤ d) (hG : g_G M) (q1 : 0 ≤ c.toInt) (q2 : c.toInt < ca) (q3 : ca ≤ 30) (q4 : 0 ≤ f.toInt) (q5 : f.toInt < sg.2.1) (q6 : ¬ x_row sg 2 f.toInt = 3) (q7 : 0 ≤ w.toInt) (q8 : w.toInt ≤ 2) (q9 : FA M) (q10 : PLk M sg) (q11 : W8 M) (q12 : KST M 96 98 97 95 ca sg K) (h : ∀ (r : Int32) (M1 : mm_M), g_G M1 → FR md_0 M M1 → (r.toInt = x_mvr (x_mv9 sg f.toInt t.toInt (x_hf sg K c.toInt f.toInt)) w.toInt) → Q (some (.int r)) M1) : mm_T X d 239 0 [.ref 77, .int c, .int f, .int t, .int w, .null, .null, .null, .null, .null, .null, .null, .null] [] M Q := by
  have F0 : FR md_0 M M := FR.rf
  have z_69 := q10.2.1
  have z_70 := q10.2.2.1
  have z_71 := q10.2.2.2.1
  have z_72 := q10.1
  have z_73 := z_72.1
  have z_74 := z_72.2.1
  have z_75 := z_72.2.2.1
  have z_76 := z_72.2.2.2.1
  have z_77 := z_72.2.2.2.2.1
  have z_78 := z_72.2.2.2.2.2.1
  have b_79 := g_b hG (a := 77) (i := 11) (lo := 10) (hi := 60) rfl rfl
  have b_80 := g_b hG (a := 77) (i := 12) (lo := 0) (hi := 8) rfl rfl
  have b_81 := g_b hG (a := 77) (i := 13) (lo := 0) (hi := 12) rfl rfl
  have z_82 := q10.1.2.2.2.2.2.2.2 f.toInt (by omega) (by omega)
  refine to_an (pc := 0) rw_240_0 rfl (to_in (pc := 1) rw_240_1 rfl (to_in (pc := 2) rw_240_2 rfl (s_v (pc := 3) rw_240_3 (dp0 hd (by decide)) (ls0 := [.ref 77, .int c, .int f]) rfl (Nat.le_of_ble_eq_true rfl) (Nat.le_of_ble_eq_true rfl) rfl (to_rc rfl rfl rfl (g_o hG rfl)) rfl (E_232 hX (dp1 hd (by decide)) hG (by omega) (by omega) (by omega) (by omega) (by omega) q10 q12 (c := c) (f := f) (sg := sg) (ca := ca) (K := K) (fun r83 M87 hG85 F84 p_86 => ?_)))))
  have F88 := FR.c F0 F84 tg_29
  refine to_ls (pc := 6) rw_240_6 (ls2 := [.ref 77, .int c, .int f, .int t, .int w, .long r83, .null, .null, .null, .null, .null, .null, .null]) rfl rfl (to_c (pc := 8) rw_240_8 (x := (0 : Int32)) rfl rfl (to_is (pc := 9) rw_240_9 (ls2 := [.ref 77, .int c, .int f, .int t, .int w, .long r83, .null, .int (0 : Int32), .null, .null, .null, .null, .null]) rfl rfl (to_c (pc := 11) rw_240_11 (x := (0 : Int32)) rfl rfl (to_is (pc := 12) rw_240_12 (ls2 := [.ref 77, .int c, .int f, .int t, .int w, .long r83, .null, .int (0 : Int32), .int (0 : Int32), .null, .null, .null, .null]) rfl rfl (to_c (pc := 14) rw_240_14 (x := (-1 : Int32)) rfl rfl (to_is (pc := 15) rw_240_15 (ls2 := [.ref 77, .int c, .int f, .int t, .int w, .long r83, .null, .int (0 : Int32), .int (0 : Int32), .int (-1 : Int32), .null, .null, .null]) rfl rfl (to_c (pc := 17) rw_240_17 (x := (0 : Int32)) rfl rfl (to_is (pc := 18) rw_240_18 (ls2 := [.ref 77, .int c, .int f, .int t, .int w, .long r83, .null, .int (0 : Int32), .int (0 : Int32), .int (-1 : Int32), .int (0 : Int32), .null, .null]) rfl rfl ?_))))))))
  have k_89 : (0 : Int32).toInt = 0 := rfl
  have k_90 : (-1 : Int32).toInt = -1 := rfl
  have j_91 := (FA_f (tg_139 F84) q9)
  have j_92 := (PLk_f (tg_101 F84) q10)
  have j_93 := (W8_f (tg_140 F84) q11)
  exact (U_240_0 (c := c) (f := f) (t := t) (w := w) (sg := sg) (ca := ca) (K := K) hX hd q1 q2 q3 q4 q5 q6 q7 q8 q9 q10 q11 q12 h ((24 - (0 : Int32).toInt).toNat + 1)) M87 (.int c) r83 (0 : Int32) (0 : Int32) (-1 : Int32) (0 : Int32) (.null) (.null) hG85 F88 (by omega) (by omega) (by omega) (by omega) (by omega) (by omega) j_91 j_92 j_93 p_86 (x_mvl_i (by omega) (by omega) (by omega) rfl) (by omega)
