set_option maxRecDepth 4000 in
set_option maxHeartbeats 0 in
theorem E_33 {X : mm_X} {d : Nat} {M : mm_M} {Q : Option Value → mm_M → Prop} {p : Nat} {t : Nat → Int} {nn : Int} {a : Int} {sg : x_S} {k : x_K} (hX : g_X X) (hd : 3 ≤ d) (hG : g_G M) (hp : p = 49 ∨ p = 58) (q1 : CS M t nn) (q2 : (M.2.1 1 9).toInt = a) (q3 : PLc M p sg) (h : ∀ (r : Int32) (M1 : mm_M), g_G M1 → FR (md_f33 p) M M1 → (0 ≤ r.toInt) → (r.toInt ≤ 1) → CS M1 t nn → ((r.toInt = 0 → x_field t nn sg (x_ns t nn a) k = none)) → ((r.toInt = 1 → ∃ s2 : x_S, x_field t nn sg (x_ns t nn a) k = k (M1.2.1 1 9).toInt s2 ∧ PLc M1 p s2 ∧ s2.2.1 + s2.2.2.1 = sg.2.1 + sg.2.2.1 + 1)) → Q (some (.int r)) M1) : mm_T X d 33 0 [.ref p, .ref 1, .null, .null] [] M Q := by
  have F0 : FR (md_f33 p) M M := FR.rf
  have z_1 := q3.2.1
  have z_2 := q3.2.2.1
  have z_3 := q3.2.2.2.1
  have z_4 := q3.1
  have z_5 := z_4.1
  have z_6 := z_4.2.1
  have z_7 := z_4.2.2.1
  have z_8 := z_4.2.2.2.1
  have z_9 := z_4.2.2.2.2.1
  have z_10 := z_4.2.2.2.2.2.1
  have b_11 := g_b hG (a := p) (i := 0) (lo := 10) (hi := 60) (by rcases hp with rfl | rfl <;> rfl) (by rcases hp with rfl | rfl <;> rfl)
  have b_12 := g_b hG (a := p) (i := 2) (lo := 0) (hi := 8) (by rcases hp with rfl | rfl <;> rfl) (by rcases hp with rfl | rfl <;> rfl)
  have b_13 := g_b hG (a := p) (i := 3) (lo := 0) (hi := 12) (by rcases hp with rfl | rfl <;> rfl) (by rcases hp with rfl | rfl <;> rfl)
  refine to_an (pc := 0) rw_33_0 rfl ?_
  refine tt_gI (pc := 1) rw_33_1 (g_o hG (by rcases hp with rfl | rfl <;> rfl)) (v := (M.2.1 p 2)) rfl ?_
  refine to_c (pc := 4) rw_33_4 (x := (8 : Int32)) rfl rfl ?_
  refine b_clt (pc := 6) rw_33_6 (A := (M.2.1 p 2).toInt) (B := 8) rfl rfl (fun h14 => ?_) (fun h14 => ?_)
  · refine to_an (pc := 15) rw_33_15 rfl ?_
    refine s_v (pc := 16) rw_33_16 (by omega) (ls0 := [.ref 1]) rfl (Nat.le_of_ble_eq_true rfl) (Nat.le_of_ble_eq_true rfl) rfl (to_rc rfl rfl rfl (g_o hG rfl)) rfl ?_
    refine E_83 hX (by omega) hG q1 (by omega) (t := t) (nn := nn) (a := a) (fun M19 hG16 F15 p_17 p_18 => ?_)
    have F20 := FR.c F0 F15 (fun a i z => show a = 1 ∧ 6 ≤ i ∧ i ≤ 11 ∨ a = p ∧ 2 ≤ i ∨ p + 1 ≤ a ∧ a ≤ p + 5 by have z : a = 1 ∧ 6 ≤ i ∧ i ≤ 9 := z; omega)
    refine to_an (pc := 19) rw_33_19 rfl ?_
    refine to_an (pc := 20) rw_33_20 rfl ?_
    refine s_v (pc := 21) rw_33_21 (by omega) (ls0 := [.ref p, .ref 1]) rfl (Nat.le_of_ble_eq_true rfl) (Nat.le_of_ble_eq_true rfl) rfl (to_rc rfl rfl rfl (g_o hG16 (by rcases hp with rfl | rfl <;> rfl))) rfl ?_
    have j_21 := (PLc_f (fun a i z => F_n F15 (show ¬ (a = 1 ∧ 6 ≤ i ∧ i ≤ 9) by omega) rfl) (F_nl F15 (show ¬ (p = 1 ∧ 6 ≤ 4 ∧ 4 ≤ 9) by omega) rfl) q3)
    refine E_34 hX (by omega) hG16 hp p_17 (by omega) j_21 (p := p) (t := t) (nn := nn) (a := (x_ns t nn a)) (sg := sg) (fun r22 M30 hG24 F23 p_25 p_26 p_27 p_28 p_29 => ?_)
    have F31 := FR.c F20 F23 (fun a i z => show a = 1 ∧ 6 ≤ i ∧ i ≤ 11 ∨ a = p ∧ 2 ≤ i ∨ p + 1 ≤ a ∧ a ≤ p + 5 by have z : a = 1 ∧ (i = 10 ∨ i = 11) := z; omega)
    rcases (show r22.toInt = 0 ∨ r22.toInt = 1 by omega) with h32 | h32
    · skip
      have p_33 := p_29 (by omega)
      clear p_27 p_28 p_29
      refine b_ine_f (pc := 24) rw_33_24 (A := r22.toInt) rfl (by omega) ?_
      refine to_c (pc := 27) rw_33_27 (x := (0 : Int32)) rfl rfl ?_
      refine s_r1 (pc := 28) rw_33_28 (A := 0) rfl (by omega) ?_
      have k_34 : (0 : Int32).toInt = 0 := rfl
      have j_35 := (CS_f (fun a i z => F_n F23 (show ¬ (a = 1 ∧ (i = 10 ∨ i = 11)) by omega) rfl) p_17)
      exact h (0 : Int32) M30 hG24 F31 (by omega) (by omega) j_35 (fun _ => x_field_n (fun h9 => by unfold x_fC at h9; omega)) (fun z => absurd z (by decide))
    · skip
      have p_36 := p_27 (by omega)
      have p_37 := p_28 (by omega)
      clear p_27 p_28 p_29
      refine b_ine_t (pc := 24) rw_33_24 (A := r22.toInt) rfl (by omega) ?_
      refine to_an (pc := 29) rw_33_29 rfl ?_
      refine s_gR (pc := 30) rw_33_30 hG24 (by rcases hp with rfl | rfl <;> rfl) (v := (p + 1)) (by rcases hp with rfl | rfl <;> rfl) ?_
      refine to_an (pc := 33) rw_33_33 rfl ?_
      have c_38 : M30.2.1 p 2 = (M.2.1 p 2) := (F_n F23 (show ¬ (p = 1 ∧ (2 = 10 ∨ 2 = 11)) by omega) (F_n F15 (show ¬ (p = 1 ∧ 6 ≤ 2 ∧ 2 ≤ 9) by omega) rfl))
      refine tt_gI (pc := 34) rw_33_34 (g_o hG24 (by rcases hp with rfl | rfl <;> rfl)) (v := (M.2.1 p 2)) c_38 ?_
      refine to_an (pc := 37) rw_33_37 rfl ?_
      have c_39 : M30.2.1 1 8 = (M19.2.1 1 8) := (F_n F23 (show ¬ (1 = 1 ∧ (8 = 10 ∨ 8 = 11)) by omega) rfl)
      refine tt_gI (pc := 38) rw_33_38 (g_o hG24 rfl) (v := (M19.2.1 1 8)) c_39 ?_
      refine s_ias (pc := 41) rw_33_41 hG24 (by rcases hp with rfl | rfl <;> rfl) (n := 8) (by rcases hp with rfl | rfl <;> rfl) (A := (M.2.1 p 2).toInt) rfl (by omega) (by omega) (fun M41 W40 => ?_)
      have hG42 := g_wf hG24 W40 (by rcases hp with rfl | rfl <;> rfl) (by rcases hp with rfl | rfl <;> rfl) (by omega)
      have F43 := FR.w F31 W40 (show (p + 1) = 1 ∧ 6 ≤ ((M.2.1 p 2).toInt).toNat ∧ ((M.2.1 p 2).toInt).toNat ≤ 11 ∨ (p + 1) = p ∧ 2 ≤ ((M.2.1 p 2).toInt).toNat ∨ p + 1 ≤ (p + 1) ∧ (p + 1) ≤ p + 5 by omega)
      refine to_an (pc := 42) rw_33_42 rfl ?_
      refine s_v (pc := 43) rw_33_43 (by omega) (ls0 := [.ref 1]) rfl (Nat.le_of_ble_eq_true rfl) (Nat.le_of_ble_eq_true rfl) rfl (to_rc rfl rfl rfl (g_o hG42 rfl)) rfl ?_
      have j_44 := (CS_f (fun a i z => W_n W40 (by omega) rfl) (CS_f (fun a i z => F_n F23 (show ¬ (a = 1 ∧ (i = 10 ∨ i = 11)) by omega) rfl) p_17))
      have c_45 : M41.2.1 1 9 = (M19.2.1 1 9) := (W_n W40 (by omega) (F_n F23 (show ¬ (1 = 1 ∧ (9 = 10 ∨ 9 = 11)) by omega) rfl))
      have t_46 : (M41.2.1 1 9).toInt = (M19.2.1 1 9).toInt := congrArg Int32.toInt c_45
      refine E_83 hX (by omega) hG42 j_44 (by omega) (t := t) (nn := nn) (a := (x_ns t nn a)) (fun M51 hG48 F47 p_49 p_50 => ?_)
      have F52 := FR.c F43 F47 (fun a i z => show a = 1 ∧ 6 ≤ i ∧ i ≤ 11 ∨ a = p ∧ 2 ≤ i ∨ p + 1 ≤ a ∧ a ≤ p + 5 by have z : a = 1 ∧ 6 ≤ i ∧ i ≤ 9 := z; omega)
      refine to_an (pc := 46) rw_33_46 rfl ?_
      refine s_s (pc := 47) rw_33_47 (by omega) (ls0 := [.ref 1]) rfl (Nat.le_of_ble_eq_true rfl) (Nat.le_of_ble_eq_true rfl) rfl (to_rcs rfl rfl) rfl ?_
      refine E_35 hX (by omega) hG48 p_49 (by omega) (t := t) (nn := nn) (a := (x_ns t nn (x_ns t nn a))) (fun r53 M60 hG55 F54 p_56 p_57 p_58 p_59 => ?_)
      have F61 := FR.c F52 F54 (fun a i z => show a = 1 ∧ 6 ≤ i ∧ i ≤ 11 ∨ a = p ∧ 2 ≤ i ∨ p + 1 ≤ a ∧ a ≤ p + 5 by have z : a < 0 := z; omega)
      rcases (show r53.toInt = -1 ∨ r53.toInt = 0 ∨ r53.toInt = 1 ∨ r53.toInt = 2 ∨ r53.toInt = 3 by omega) with h62 | h62 | h62 | h62 | h62
      · skip
        have p_63 := p_58 (by omega)
        clear p_58 p_59
        refine to_isn (pc := 50) rw_33_50 (ls2 := [.ref p, .ref 1, .int r53, .null]) rfl rfl ?_
        refine to_in (pc := 51) rw_33_51 rfl ?_
        refine to_c (pc := 52) rw_33_52 (x := (-1 : Int32)) rfl rfl ?_
        refine b_cne_f (pc := 53) rw_33_53 (A := r53.toInt) (B := -1) rfl rfl (by omega) ?_
        refine to_an (pc := 56) rw_33_56 rfl ?_
        refine to_c (pc := 57) rw_33_57 (x := (1 : Int32)) rfl rfl ?_
        refine s_v (pc := 58) rw_33_58 (by omega) (ls0 := [.ref 1, .int (1 : Int32)]) rfl (Nat.le_of_ble_eq_true rfl) (Nat.le_of_ble_eq_true rfl) rfl (to_rc rfl rfl rfl (g_o hG55 rfl)) rfl ?_
        refine to_an (pc := 0) rw_84_0 rfl ?_
        refine to_in (pc := 1) rw_84_1 rfl ?_
        refine s_pI (pc := 2) rw_84_2 hG55 rfl (fun M65 W64 => ?_)
        have hG66 := g_wf hG55 W64 rfl rfl (by decide)
        have F67 := FR.w F61 W64 (show 1 = 1 ∧ 6 ≤ 10 ∧ 10 ≤ 11 ∨ 1 = p ∧ 2 ≤ 10 ∨ p + 1 ≤ 1 ∧ 1 ≤ p + 5 by omega)
        refine to_an (pc := 5) rw_84_5 rfl ?_
        refine to_an (pc := 6) rw_84_6 rfl ?_
        have c_68 : M65.2.1 1 9 = (M51.2.1 1 9) := (W_n W64 (by decide) (F_n F54 (show ¬ (1 < 0) by omega) rfl))
        refine tt_gI (pc := 7) rw_84_7 (g_o hG66 rfl) (v := (M51.2.1 1 9)) c_68 ?_
        refine s_pI (pc := 10) rw_84_10 hG66 rfl (fun M70 W69 => ?_)
        have hG71 := g_wf hG66 W69 rfl rfl (by decide)
        have F72 := FR.w F67 W69 (show 1 = 1 ∧ 6 ≤ 11 ∧ 11 ≤ 11 ∨ 1 = p ∧ 2 ≤ 11 ∨ p + 1 ≤ 1 ∧ 1 ≤ p + 5 by omega)
        refine to_c (pc := 13) rw_84_13 (x := (0 : Int32)) rfl rfl ?_
        refine s_r1 (pc := 14) rw_84_14 (A := 0) rfl (by omega) ?_
        refine s_r1 (pc := 61) rw_33_61 (A := 0) rfl (by omega) ?_
        have k_73 : (0 : Int32).toInt = 0 := rfl
        have j_74 := (CS_f (fun a i z => W_n W69 (by omega) rfl) (CS_f (fun a i z => W_n W64 (by omega) rfl) (CS_f (fun a i z => F_n F54 (show ¬ (a < 0) by omega) rfl) p_49)))
        exact h (0 : Int32) M70 hG71 F72 (by omega) (by omega) j_74 (fun _ => x_field_n (fun h9 => by unfold x_fC at h9; omega)) (fun z => absurd z (by decide))
      · skip
        have p_75 := p_59 (by omega)
        clear p_58 p_59
        refine to_isn (pc := 50) rw_33_50 (ls2 := [.ref p, .ref 1, .int r53, .null]) rfl rfl ?_
        refine to_in (pc := 51) rw_33_51 rfl ?_
        refine to_c (pc := 52) rw_33_52 (x := (-1 : Int32)) rfl rfl ?_
        refine b_cne_t (pc := 53) rw_33_53 (A := r53.toInt) (B := -1) rfl rfl (by omega) ?_
        refine to_an (pc := 62) rw_33_62 rfl ?_
        refine s_gR (pc := 63) rw_33_63 hG55 (by rcases hp with rfl | rfl <;> rfl) (v := (p + 2)) (by rcases hp with rfl | rfl <;> rfl) ?_
        refine to_an (pc := 66) rw_33_66 rfl ?_
        have c_76 : M60.2.1 p 2 = (M.2.1 p 2) := (F_n F54 (show ¬ (p < 0) by omega) (F_n F47 (show ¬ (p = 1 ∧ 6 ≤ 2 ∧ 2 ≤ 9) by omega) (W_n W40 (by omega) c_38)))
        refine tt_gI (pc := 67) rw_33_67 (g_o hG55 (by rcases hp with rfl | rfl <;> rfl)) (v := (M.2.1 p 2)) c_76 ?_
        refine to_in (pc := 70) rw_33_70 rfl ?_
        refine s_ias (pc := 71) rw_33_71 hG55 (by rcases hp with rfl | rfl <;> rfl) (n := 8) (by rcases hp with rfl | rfl <;> rfl) (A := (M.2.1 p 2).toInt) rfl (by omega) (by omega) (fun M78 W77 => ?_)
        have hG79 := g_w hG55 W77 (A := r53.toInt) rfl (lo := 0) (hi := 3) (by rcases hp with rfl | rfl <;> rfl) (by rcases hp with rfl | rfl <;> rfl) (by omega) (by omega)
        have F80 := FR.w F61 W77 (show (p + 2) = 1 ∧ 6 ≤ ((M.2.1 p 2).toInt).toNat ∧ ((M.2.1 p 2).toInt).toNat ≤ 11 ∨ (p + 2) = p ∧ 2 ≤ ((M.2.1 p 2).toInt).toNat ∨ p + 1 ≤ (p + 2) ∧ (p + 2) ≤ p + 5 by omega)
        refine to_an (pc := 72) rw_33_72 rfl ?_
        refine s_v (pc := 73) rw_33_73 (by omega) (ls0 := [.ref 1]) rfl (Nat.le_of_ble_eq_true rfl) (Nat.le_of_ble_eq_true rfl) rfl (to_rc rfl rfl rfl (g_o hG79 rfl)) rfl ?_
        have j_81 := (CS_f (fun a i z => W_n W77 (by omega) rfl) (CS_f (fun a i z => F_n F54 (show ¬ (a < 0) by omega) rfl) p_49))
        have c_82 : M78.2.1 1 9 = (M51.2.1 1 9) := (W_n W77 (by omega) (F_n F54 (show ¬ (1 < 0) by omega) rfl))
        have t_83 : (M78.2.1 1 9).toInt = (M51.2.1 1 9).toInt := congrArg Int32.toInt c_82
        refine E_83 hX (by omega) hG79 j_81 (by omega) (t := t) (nn := nn) (a := (x_ns t nn (x_ns t nn a))) (fun M88 hG85 F84 p_86 p_87 => ?_)
        have F89 := FR.c F80 F84 (fun a i z => show a = 1 ∧ 6 ≤ i ∧ i ≤ 11 ∨ a = p ∧ 2 ≤ i ∨ p + 1 ≤ a ∧ a ≤ p + 5 by have z : a = 1 ∧ 6 ≤ i ∧ i ≤ 9 := z; omega)
        refine to_in (pc := 76) rw_33_76 rfl ?_
        refine to_c (pc := 77) rw_33_77 (x := (1 : Int32)) rfl rfl ?_
        refine b_ceq_f (pc := 78) rw_33_78 (A := r53.toInt) (B := 1) rfl rfl (by omega) ?_
        refine to_in (pc := 81) rw_33_81 rfl ?_
        refine to_c (pc := 82) rw_33_82 (x := (2 : Int32)) rfl rfl ?_
        refine b_cne_t (pc := 83) rw_33_83 (A := r53.toInt) (B := 2) rfl rfl (by omega) ?_
        refine to_an (pc := 105) rw_33_105 rfl ?_
        refine to_an (pc := 106) rw_33_106 rfl ?_
        refine to_in (pc := 107) rw_33_107 rfl ?_
        refine b_ine_f (pc := 108) rw_33_108 (A := r53.toInt) rfl (by omega) ?_
        refine to_c (pc := 111) rw_33_111 (x := (2 : Int32)) rfl rfl ?_
        refine to_go (pc := 112) rw_33_112 ?_
        refine s_v (pc := 116) rw_33_116 (by omega) (ls0 := [.ref p, .ref 1, .int (2 : Int32), .null, .null, .null]) rfl (Nat.le_of_ble_eq_true rfl) (Nat.le_of_ble_eq_true rfl) rfl (to_rc rfl rfl rfl (g_o hG85 (by rcases hp with rfl | rfl <;> rfl))) rfl ?_
        refine to_an (pc := 0) rw_36_0 rfl ?_
        refine tt_gI (pc := 1) rw_36_1 (g_o hG85 rfl) (v := (M88.2.1 1 8)) rfl ?_
        refine to_isn (pc := 4) rw_36_4 (ls2 := [.ref p, .ref 1, .int (2 : Int32), .int (M88.2.1 1 8), .null, .null]) rfl rfl ?_
        refine to_an (pc := 5) rw_36_5 rfl ?_
        refine to_c (pc := 6) rw_36_6 (x := (0 : Int32)) rfl rfl ?_
        refine to_an (pc := 7) rw_36_7 rfl ?_
        have c_90 : M88.2.1 p 0 = (M.2.1 p 0) := (F_n F84 (show ¬ (p = 1 ∧ 6 ≤ 0 ∧ 0 ≤ 9) by omega) (W_n W77 (by omega) (F_n F54 (show ¬ (p < 0) by omega) (F_n F47 (show ¬ (p = 1 ∧ 6 ≤ 0 ∧ 0 ≤ 9) by omega) (W_n W40 (by omega) (F_n F23 (show ¬ (p = 1 ∧ (0 = 10 ∨ 0 = 11)) by omega) (F_n F15 (show ¬ (p = 1 ∧ 6 ≤ 0 ∧ 0 ≤ 9) by omega) rfl)))))))
        refine tt_gI (pc := 8) rw_36_8 (g_o hG85 (by rcases hp with rfl | rfl <;> rfl)) (v := (M.2.1 p 0)) c_90 ?_
        refine to_c (pc := 11) rw_36_11 (x := (1 : Int32)) rfl rfl ?_
        refine s_sub (pc := 12) rw_36_12 (A := (M.2.1 p 0).toInt) (B := 1) rfl rfl (by omega) (fun v91 e92 => ?_)
        refine s_v (pc := 13) rw_36_13 (by omega) (ls0 := [.ref 1, .int (0 : Int32), .int v91]) rfl (Nat.le_of_ble_eq_true rfl) (Nat.le_of_ble_eq_true rfl) rfl (to_rc rfl rfl rfl (g_o hG85 rfl)) rfl ?_
        have k_93 : (0 : Int32).toInt = 0 := rfl
        refine E_88 hX (by omega) hG85 p_86 (by omega) (l := (0 : Int32)) (m := v91) (t := t) (nn := nn) (a := (x_ns t nn (x_ns t nn (x_ns t nn a)))) (fun r94 M101 hG96 F95 p_97 p_98 p_99 p_100 => ?_)
        have F102 := FR.c F89 F95 (fun a i z => show a = 1 ∧ 6 ≤ i ∧ i ≤ 11 ∨ a = p ∧ 2 ≤ i ∨ p + 1 ≤ a ∧ a ≤ p + 5 by have z : a = 1 ∧ (i = 10 ∨ i = 11) := z; omega)
        rcases (show r94.toInt = 0 ∨ r94.toInt = 1 by omega) with h103 | h103
        · skip
          have p_104 := p_100 (by omega)
          clear p_99 p_100
          have z_105 := x_val_b (t := t) (nn := nn) (a := (x_ns t nn (x_ns t nn (x_ns t nn a))))
          refine b_ieq_t (pc := 16) rw_36_16 (A := r94.toInt) rfl (by omega) ?_
          refine to_c (pc := 29) rw_36_29 (x := (0 : Int32)) rfl rfl ?_
          refine s_r1 (pc := 30) rw_36_30 (A := 0) rfl (by omega) ?_
          refine b_ieq_t (pc := 119) rw_33_119 (A := 0) rfl (by omega) ?_
          refine to_c (pc := 138) rw_33_138 (x := (0 : Int32)) rfl rfl ?_
          refine to_isn (pc := 139) rw_33_139 (ls2 := [.ref p, .ref 1, .int r53, .int (0 : Int32)]) rfl rfl ?_
          refine to_in (pc := 140) rw_33_140 rfl ?_
          refine b_ine_f (pc := 141) rw_33_141 (A := 0) rfl (by omega) ?_
          refine to_c (pc := 144) rw_33_144 (x := (0 : Int32)) rfl rfl ?_
          refine s_r1 (pc := 145) rw_33_145 (A := 0) rfl (by omega) ?_
          have j_106 := (CS_f (fun a i z => F_n F95 (show ¬ (a = 1 ∧ (i = 10 ∨ i = 11)) by omega) rfl) p_86)
          exact h (0 : Int32) M101 hG96 F102 (by omega) (by omega) j_106 (fun _ => x_field_n (fun h9 => by unfold x_fC at h9; omega)) (fun z => absurd z (by decide))
        · skip
          have p_107 := p_99 (by omega)
          clear p_99 p_100
          have c_108 : M101.2.1 1 8 = (M88.2.1 1 8) := (F_n F95 (show ¬ (1 = 1 ∧ (8 = 10 ∨ 8 = 11)) by omega) rfl)
          have z_109 := x_val_b (t := t) (nn := nn) (a := (x_ns t nn (x_ns t nn (x_ns t nn a)))) (by omega)
          refine b_ieq_f (pc := 16) rw_36_16 (A := r94.toInt) rfl (by omega) ?_
          refine to_an (pc := 19) rw_36_19 rfl ?_
          refine to_an (pc := 20) rw_36_20 rfl ?_
          refine to_in (pc := 21) rw_36_21 rfl ?_
          refine to_in (pc := 22) rw_36_22 rfl ?_
          refine s_v (pc := 23) rw_36_23 (by omega) (ls0 := [.ref p, .ref 1, .int (M88.2.1 1 8), .int (M88.2.1 1 8)]) rfl (Nat.le_of_ble_eq_true rfl) (Nat.le_of_ble_eq_true rfl) rfl (to_rc rfl rfl rfl (g_o hG96 (by rcases hp with rfl | rfl <;> rfl))) rfl ?_
          have j_110 := (CS_f (fun a i z => F_n F95 (show ¬ (a = 1 ∧ (i = 10 ∨ i = 11)) by omega) rfl) p_86)
          have c_111 : M101.2.1 1 9 = (M88.2.1 1 9) := (F_n F95 (show ¬ (1 = 1 ∧ (9 = 10 ∨ 9 = 11)) by omega) rfl)
          have t_112 : (M101.2.1 1 9).toInt = (M88.2.1 1 9).toInt := congrArg Int32.toInt c_111
          have j_113 := (PLc_f (fun a i z => F_n F95 (show ¬ (a = 1 ∧ (i = 10 ∨ i = 11)) by omega) rfl) (F_nl F95 (show ¬ (p = 1 ∧ (4 = 10 ∨ 4 = 11)) by omega) rfl) (PLc_f (fun a i z => F_n F84 (show ¬ (a = 1 ∧ 6 ≤ i ∧ i ≤ 9) by omega) rfl) (F_nl F84 (show ¬ (p = 1 ∧ 6 ≤ 4 ∧ 4 ≤ 9) by omega) rfl) (PLc_f (fun a i z => W_n W77 (by omega) rfl) (W_j W77 rfl) (PLc_f (fun a i z => F_n F54 (show ¬ (a < 0) by omega) rfl) (F_nl F54 (show ¬ (p < 0) by omega) rfl) (PLc_f (fun a i z => F_n F47 (show ¬ (a = 1 ∧ 6 ≤ i ∧ i ≤ 9) by omega) rfl) (F_nl F47 (show ¬ (p = 1 ∧ 6 ≤ 4 ∧ 4 ≤ 9) by omega) rfl) (PLc_f (fun a i z => W_n W40 (by omega) rfl) (W_j W40 rfl) (PLc_f (fun a i z => F_n F23 (show ¬ (a = 1 ∧ (i = 10 ∨ i = 11)) by omega) rfl) (F_nl F23 (show ¬ (p = 1 ∧ (4 = 10 ∨ 4 = 11)) by omega) rfl) j_21)))))))
          refine E_39 hX (by omega) hG96 hp j_110 (by omega) j_113 (by omega) (by omega) (by omega) (by omega) (by omega) (p := p) (f := (M88.2.1 1 8)) (l := (M88.2.1 1 8)) (t := t) (nn := nn) (a := (x_ns t nn (x_ns t nn (x_ns t nn a)))) (sg := sg) (fun r114 M121 hG116 F115 p_117 p_118 p_119 p_120 => ?_)
          have F122 := FR.c F102 F115 (fun a i z => show a = 1 ∧ 6 ≤ i ∧ i ≤ 11 ∨ a = p ∧ 2 ≤ i ∨ p + 1 ≤ a ∧ a ≤ p + 5 by have z : a = 1 ∧ (i = 10 ∨ i = 11) := z; omega)
          have z_123 := x_free_v (s := sg) (f := (M88.2.1 1 8).toInt) (l := (M88.2.1 1 8).toInt) (f2 := (x_val t nn (x_ns t nn (x_ns t nn (x_ns t nn a))))) (l2 := (x_val t nn (x_ns t nn (x_ns t nn (x_ns t nn a))))) (by omega) (by omega)
          rcases (show r114.toInt = 0 ∨ r114.toInt = 1 by omega) with h124 | h124
          · skip
            have p_125 := p_120 (by omega)
            clear p_119 p_120
            refine b_ine_f (pc := 26) rw_36_26 (A := r114.toInt) rfl (by omega) ?_
            refine to_c (pc := 29) rw_36_29 (x := (0 : Int32)) rfl rfl ?_
            refine s_r1 (pc := 30) rw_36_30 (A := 0) rfl (by omega) ?_
            refine b_ieq_t (pc := 119) rw_33_119 (A := 0) rfl (by omega) ?_
            refine to_c (pc := 138) rw_33_138 (x := (0 : Int32)) rfl rfl ?_
            refine to_isn (pc := 139) rw_33_139 (ls2 := [.ref p, .ref 1, .int r53, .int (0 : Int32)]) rfl rfl ?_
            refine to_in (pc := 140) rw_33_140 rfl ?_
            refine b_ine_f (pc := 141) rw_33_141 (A := 0) rfl (by omega) ?_
            refine to_c (pc := 144) rw_33_144 (x := (0 : Int32)) rfl rfl ?_
            refine s_r1 (pc := 145) rw_33_145 (A := 0) rfl (by omega) ?_
            have j_126 := (CS_f (fun a i z => F_n F115 (show ¬ (a = 1 ∧ (i = 10 ∨ i = 11)) by omega) rfl) j_110)
            exact h (0 : Int32) M121 hG116 F122 (by omega) (by omega) j_126 (fun _ => x_field_n (fun h9 => by unfold x_fC at h9; omega)) (fun z => absurd z (by decide))
          · skip
            have p_127 := p_119 (by omega)
            clear p_119 p_120
            refine b_ine_t (pc := 26) rw_36_26 (A := r114.toInt) rfl (by omega) ?_
            refine to_an (pc := 31) rw_36_31 rfl ?_
            refine s_v (pc := 32) rw_36_32 (by omega) (ls0 := [.ref 1]) rfl (Nat.le_of_ble_eq_true rfl) (Nat.le_of_ble_eq_true rfl) rfl (to_rc rfl rfl rfl (g_o hG116 rfl)) rfl ?_
            have j_128 := (CS_f (fun a i z => F_n F115 (show ¬ (a = 1 ∧ (i = 10 ∨ i = 11)) by omega) rfl) j_110)
            have c_129 : M121.2.1 1 9 = (M88.2.1 1 9) := (F_n F115 (show ¬ (1 = 1 ∧ (9 = 10 ∨ 9 = 11)) by omega) c_111)
            have t_130 : (M121.2.1 1 9).toInt = (M88.2.1 1 9).toInt := congrArg Int32.toInt c_129
            refine E_83 hX (by omega) hG116 j_128 (by omega) (t := t) (nn := nn) (a := (x_ns t nn (x_ns t nn (x_ns t nn a)))) (fun M135 hG132 F131 p_133 p_134 => ?_)
            have F136 := FR.c F122 F131 (fun a i z => show a = 1 ∧ 6 ≤ i ∧ i ≤ 11 ∨ a = p ∧ 2 ≤ i ∨ p + 1 ≤ a ∧ a ≤ p + 5 by have z : a = 1 ∧ 6 ≤ i ∧ i ≤ 9 := z; omega)
            refine to_an (pc := 35) rw_36_35 rfl ?_
            refine tt_gI (pc := 36) rw_36_36 (g_o hG132 rfl) (v := (M135.2.1 1 8)) rfl ?_
            refine to_is (pc := 39) rw_36_39 (ls2 := [.ref p, .ref 1, .int (2 : Int32), .int (M88.2.1 1 8), .int (M135.2.1 1 8), .null]) rfl rfl ?_
            refine to_an (pc := 41) rw_36_41 rfl ?_
            have c_137 : M135.2.1 p 0 = (M.2.1 p 0) := (F_n F131 (show ¬ (p = 1 ∧ 6 ≤ 0 ∧ 0 ≤ 9) by omega) (F_n F115 (show ¬ (p = 1 ∧ (0 = 10 ∨ 0 = 11)) by omega) (F_n F95 (show ¬ (p = 1 ∧ (0 = 10 ∨ 0 = 11)) by omega) c_90)))
            refine tt_gI (pc := 42) rw_36_42 (g_o hG132 (by rcases hp with rfl | rfl <;> rfl)) (v := (M.2.1 p 0)) c_137 ?_
            refine to_c (pc := 45) rw_36_45 (x := (1 : Int32)) rfl rfl ?_
            refine s_sub (pc := 46) rw_36_46 (A := (M.2.1 p 0).toInt) (B := 1) rfl rfl (by omega) (fun v138 e139 => ?_)
            refine to_in (pc := 47) rw_36_47 rfl ?_
            refine to_c (pc := 48) rw_36_48 (x := (24 : Int32)) rfl rfl ?_
            refine s_add (pc := 50) rw_36_50 (A := (M88.2.1 1 8).toInt) (B := 24) rfl rfl (by omega) (fun v140 e141 => ?_)
            refine to_c (pc := 51) rw_36_51 (x := (1 : Int32)) rfl rfl ?_
            refine s_sub (pc := 52) rw_36_52 (A := v140.toInt) (B := 1) rfl rfl (by omega) (fun v142 e143 => ?_)
            refine s_min (pc := 53) rw_36_53 rfl (A := v138.toInt) (B := v142.toInt) rfl rfl (fun v144 _ _ _ => ?_)
            refine to_is (pc := 56) rw_36_56 (ls2 := [.ref p, .ref 1, .int (2 : Int32), .int (M88.2.1 1 8), .int (M135.2.1 1 8), .int v144]) rfl rfl ?_
            refine to_an (pc := 58) rw_36_58 rfl ?_
            refine to_in (pc := 59) rw_36_59 rfl ?_
            refine to_in (pc := 60) rw_36_60 rfl ?_
            refine s_add (pc := 61) rw_36_61 (A := (M88.2.1 1 8).toInt) (B := 2) rfl rfl (by omega) (fun v145 e146 => ?_)
            refine to_c (pc := 62) rw_36_62 (x := (1 : Int32)) rfl rfl ?_
            refine s_sub (pc := 63) rw_36_63 (A := v145.toInt) (B := 1) rfl rfl (by omega) (fun v147 e148 => ?_)
            refine to_i (pc := 64) rw_36_64 rfl ?_
            refine s_v (pc := 66) rw_36_66 (by omega) (ls0 := [.ref 1, .int v147, .int v144]) rfl (Nat.le_of_ble_eq_true rfl) (Nat.le_of_ble_eq_true rfl) rfl (to_rc rfl rfl rfl (g_o hG132 rfl)) rfl ?_
            refine E_88 hX (by omega) hG132 p_133 (by omega) (l := v147) (m := v144) (t := t) (nn := nn) (a := (x_ns t nn (x_ns t nn (x_ns t nn (x_ns t nn a))))) (fun r149 M156 hG151 F150 p_152 p_153 p_154 p_155 => ?_)
            have F157 := FR.c F136 F150 (fun a i z => show a = 1 ∧ 6 ≤ i ∧ i ≤ 11 ∨ a = p ∧ 2 ≤ i ∨ p + 1 ≤ a ∧ a ≤ p + 5 by have z : a = 1 ∧ (i = 10 ∨ i = 11) := z; omega)
            rcases (show r149.toInt = 0 ∨ r149.toInt = 1 by omega) with h158 | h158
            · skip
              have p_159 := p_155 (by omega)
              clear p_154 p_155
              have z_160 := x_val_b (t := t) (nn := nn) (a := (x_ns t nn (x_ns t nn (x_ns t nn (x_ns t nn a)))))
              refine b_ieq_t (pc := 69) rw_36_69 (A := r149.toInt) rfl (by omega) ?_
              refine to_c (pc := 83) rw_36_83 (x := (0 : Int32)) rfl rfl ?_
              refine s_r1 (pc := 84) rw_36_84 (A := 0) rfl (by omega) ?_
              refine b_ieq_t (pc := 119) rw_33_119 (A := 0) rfl (by omega) ?_
              refine to_c (pc := 138) rw_33_138 (x := (0 : Int32)) rfl rfl ?_
              refine to_isn (pc := 139) rw_33_139 (ls2 := [.ref p, .ref 1, .int r53, .int (0 : Int32)]) rfl rfl ?_
              refine to_in (pc := 140) rw_33_140 rfl ?_
              refine b_ine_f (pc := 141) rw_33_141 (A := 0) rfl (by omega) ?_
              refine to_c (pc := 144) rw_33_144 (x := (0 : Int32)) rfl rfl ?_
              refine s_r1 (pc := 145) rw_33_145 (A := 0) rfl (by omega) ?_
              have j_161 := (CS_f (fun a i z => F_n F150 (show ¬ (a = 1 ∧ (i = 10 ∨ i = 11)) by omega) rfl) p_133)
              exact h (0 : Int32) M156 hG151 F157 (by omega) (by omega) j_161 (fun _ => x_field_n (fun h9 => by unfold x_fC at h9; omega)) (fun z => absurd z (by decide))
            · skip
              have p_162 := p_154 (by omega)
              clear p_154 p_155
              have c_163 : M156.2.1 1 8 = (M135.2.1 1 8) := (F_n F150 (show ¬ (1 = 1 ∧ (8 = 10 ∨ 8 = 11)) by omega) rfl)
              have z_164 := x_val_b (t := t) (nn := nn) (a := (x_ns t nn (x_ns t nn (x_ns t nn (x_ns t nn a))))) (by omega)
              refine b_ieq_f (pc := 69) rw_36_69 (A := r149.toInt) rfl (by omega) ?_
              refine to_an (pc := 72) rw_36_72 rfl ?_
              refine to_an (pc := 73) rw_36_73 rfl ?_
              refine to_in (pc := 74) rw_36_74 rfl ?_
              refine to_i (pc := 75) rw_36_75 rfl ?_
              refine s_v (pc := 77) rw_36_77 (by omega) (ls0 := [.ref p, .ref 1, .int (M88.2.1 1 8), .int (M135.2.1 1 8)]) rfl (Nat.le_of_ble_eq_true rfl) (Nat.le_of_ble_eq_true rfl) rfl (to_rc rfl rfl rfl (g_o hG151 (by rcases hp with rfl | rfl <;> rfl))) rfl ?_
              have j_165 := (CS_f (fun a i z => F_n F150 (show ¬ (a = 1 ∧ (i = 10 ∨ i = 11)) by omega) rfl) p_133)
              have c_166 : M156.2.1 1 9 = (M135.2.1 1 9) := (F_n F150 (show ¬ (1 = 1 ∧ (9 = 10 ∨ 9 = 11)) by omega) rfl)
              have t_167 : (M156.2.1 1 9).toInt = (M135.2.1 1 9).toInt := congrArg Int32.toInt c_166
              have j_168 := (PLc_f (fun a i z => F_n F150 (show ¬ (a = 1 ∧ (i = 10 ∨ i = 11)) by omega) rfl) (F_nl F150 (show ¬ (p = 1 ∧ (4 = 10 ∨ 4 = 11)) by omega) rfl) (PLc_f (fun a i z => F_n F131 (show ¬ (a = 1 ∧ 6 ≤ i ∧ i ≤ 9) by omega) rfl) (F_nl F131 (show ¬ (p = 1 ∧ 6 ≤ 4 ∧ 4 ≤ 9) by omega) rfl) (PLc_f (fun a i z => F_n F115 (show ¬ (a = 1 ∧ (i = 10 ∨ i = 11)) by omega) rfl) (F_nl F115 (show ¬ (p = 1 ∧ (4 = 10 ∨ 4 = 11)) by omega) rfl) j_113)))
              refine E_39 hX (by omega) hG151 hp j_165 (by omega) j_168 (by omega) (by omega) (by omega) (by omega) (by omega) (p := p) (f := (M88.2.1 1 8)) (l := (M135.2.1 1 8)) (t := t) (nn := nn) (a := (x_ns t nn (x_ns t nn (x_ns t nn (x_ns t nn a))))) (sg := sg) (fun r169 M176 hG171 F170 p_172 p_173 p_174 p_175 => ?_)
              have F177 := FR.c F157 F170 (fun a i z => show a = 1 ∧ 6 ≤ i ∧ i ≤ 11 ∨ a = p ∧ 2 ≤ i ∨ p + 1 ≤ a ∧ a ≤ p + 5 by have z : a = 1 ∧ (i = 10 ∨ i = 11) := z; omega)
              have z_178 := x_free_v (s := sg) (f := (M88.2.1 1 8).toInt) (l := (M135.2.1 1 8).toInt) (f2 := (x_val t nn (x_ns t nn (x_ns t nn (x_ns t nn a))))) (l2 := (x_val t nn (x_ns t nn (x_ns t nn (x_ns t nn (x_ns t nn a)))))) (by omega) (by omega)
              rcases (show r169.toInt = 0 ∨ r169.toInt = 1 by omega) with h179 | h179
              · skip
                have p_180 := p_175 (by omega)
                clear p_174 p_175
                refine b_ine_f (pc := 80) rw_36_80 (A := r169.toInt) rfl (by omega) ?_
                refine to_c (pc := 83) rw_36_83 (x := (0 : Int32)) rfl rfl ?_
                refine s_r1 (pc := 84) rw_36_84 (A := 0) rfl (by omega) ?_
                refine b_ieq_t (pc := 119) rw_33_119 (A := 0) rfl (by omega) ?_
                refine to_c (pc := 138) rw_33_138 (x := (0 : Int32)) rfl rfl ?_
                refine to_isn (pc := 139) rw_33_139 (ls2 := [.ref p, .ref 1, .int r53, .int (0 : Int32)]) rfl rfl ?_
                refine to_in (pc := 140) rw_33_140 rfl ?_
                refine b_ine_f (pc := 141) rw_33_141 (A := 0) rfl (by omega) ?_
                refine to_c (pc := 144) rw_33_144 (x := (0 : Int32)) rfl rfl ?_
                refine s_r1 (pc := 145) rw_33_145 (A := 0) rfl (by omega) ?_
                have j_181 := (CS_f (fun a i z => F_n F170 (show ¬ (a = 1 ∧ (i = 10 ∨ i = 11)) by omega) rfl) j_165)
                exact h (0 : Int32) M176 hG171 F177 (by omega) (by omega) j_181 (fun _ => x_field_n (fun h9 => by unfold x_fC at h9; omega)) (fun z => absurd z (by decide))
              · skip
                have p_182 := p_174 (by omega)
                clear p_174 p_175
                refine b_ine_t (pc := 80) rw_36_80 (A := r169.toInt) rfl (by omega) ?_
                refine to_an (pc := 85) rw_36_85 rfl ?_
                refine s_v (pc := 86) rw_36_86 (by omega) (ls0 := [.ref 1]) rfl (Nat.le_of_ble_eq_true rfl) (Nat.le_of_ble_eq_true rfl) rfl (to_rc rfl rfl rfl (g_o hG171 rfl)) rfl ?_
                have j_183 := (CS_f (fun a i z => F_n F170 (show ¬ (a = 1 ∧ (i = 10 ∨ i = 11)) by omega) rfl) j_165)
                have c_184 : M176.2.1 1 9 = (M135.2.1 1 9) := (F_n F170 (show ¬ (1 = 1 ∧ (9 = 10 ∨ 9 = 11)) by omega) c_166)
                have t_185 : (M176.2.1 1 9).toInt = (M135.2.1 1 9).toInt := congrArg Int32.toInt c_184
                refine E_83 hX (by omega) hG171 j_183 (by omega) (t := t) (nn := nn) (a := (x_ns t nn (x_ns t nn (x_ns t nn (x_ns t nn a))))) (fun M190 hG187 F186 p_188 p_189 => ?_)
                have F191 := FR.c F177 F186 (fun a i z => show a = 1 ∧ 6 ≤ i ∧ i ≤ 11 ∨ a = p ∧ 2 ≤ i ∨ p + 1 ≤ a ∧ a ≤ p + 5 by have z : a = 1 ∧ 6 ≤ i ∧ i ≤ 9 := z; omega)
                refine to_an (pc := 89) rw_36_89 rfl ?_
                refine to_in (pc := 90) rw_36_90 rfl ?_
                refine to_i (pc := 91) rw_36_91 rfl ?_
                refine to_i (pc := 93) rw_36_93 rfl ?_
                refine to_in (pc := 95) rw_36_95 rfl ?_
                refine s_sub (pc := 96) rw_36_96 (A := (M135.2.1 1 8).toInt) (B := (M88.2.1 1 8).toInt) rfl rfl (by omega) (fun v192 e193 => ?_)
                refine to_c (pc := 97) rw_36_97 (x := (1 : Int32)) rfl rfl ?_
                refine s_add (pc := 98) rw_36_98 (A := v192.toInt) (B := 1) rfl rfl (by omega) (fun v194 e195 => ?_)
                refine s_v (pc := 99) rw_36_99 (by omega) (ls0 := [.ref p, .int (M88.2.1 1 8), .int (M135.2.1 1 8), .int v194]) rfl (Nat.le_of_ble_eq_true rfl) (Nat.le_of_ble_eq_true rfl) rfl (to_rc rfl rfl rfl (g_o hG187 (by rcases hp with rfl | rfl <;> rfl))) rfl ?_
                refine to_an (pc := 0) rw_40_0 rfl ?_
                refine s_gR (pc := 1) rw_40_1 hG187 (by rcases hp with rfl | rfl <;> rfl) (v := (p + 3)) (by rcases hp with rfl | rfl <;> rfl) ?_
                refine to_an (pc := 4) rw_40_4 rfl ?_
                have c_196 : M190.2.1 p 2 = (M.2.1 p 2) := (F_n F186 (show ¬ (p = 1 ∧ 6 ≤ 2 ∧ 2 ≤ 9) by omega) (F_n F170 (show ¬ (p = 1 ∧ (2 = 10 ∨ 2 = 11)) by omega) (F_n F150 (show ¬ (p = 1 ∧ (2 = 10 ∨ 2 = 11)) by omega) (F_n F131 (show ¬ (p = 1 ∧ 6 ≤ 2 ∧ 2 ≤ 9) by omega) (F_n F115 (show ¬ (p = 1 ∧ (2 = 10 ∨ 2 = 11)) by omega) (F_n F95 (show ¬ (p = 1 ∧ (2 = 10 ∨ 2 = 11)) by omega) (F_n F84 (show ¬ (p = 1 ∧ 6 ≤ 2 ∧ 2 ≤ 9) by omega) (W_n W77 (by omega) c_76))))))))
                refine tt_gI (pc := 5) rw_40_5 (g_o hG187 (by rcases hp with rfl | rfl <;> rfl)) (v := (M.2.1 p 2)) c_196 ?_
                refine to_in (pc := 8) rw_40_8 rfl ?_
                refine s_ias (pc := 9) rw_40_9 hG187 (by rcases hp with rfl | rfl <;> rfl) (n := 8) (by rcases hp with rfl | rfl <;> rfl) (A := (M.2.1 p 2).toInt) rfl (by omega) (by omega) (fun M198 W197 => ?_)
                have hG199 := g_w hG187 W197 (A := (M88.2.1 1 8).toInt) rfl (lo := 0) (hi := 59) (by rcases hp with rfl | rfl <;> rfl) (by rcases hp with rfl | rfl <;> rfl) (by omega) (by omega)
                have F200 := FR.w F191 W197 (show (p + 3) = 1 ∧ 6 ≤ ((M.2.1 p 2).toInt).toNat ∧ ((M.2.1 p 2).toInt).toNat ≤ 11 ∨ (p + 3) = p ∧ 2 ≤ ((M.2.1 p 2).toInt).toNat ∨ p + 1 ≤ (p + 3) ∧ (p + 3) ≤ p + 5 by omega)
                refine to_an (pc := 10) rw_40_10 rfl ?_
                refine s_gR (pc := 11) rw_40_11 hG199 (by rcases hp with rfl | rfl <;> rfl) (v := (p + 4)) (by rcases hp with rfl | rfl <;> rfl) ?_
                refine to_an (pc := 14) rw_40_14 rfl ?_
                have c_201 : M198.2.1 p 2 = (M.2.1 p 2) := (W_n W197 (by omega) c_196)
                refine tt_gI (pc := 15) rw_40_15 (g_o hG199 (by rcases hp with rfl | rfl <;> rfl)) (v := (M.2.1 p 2)) c_201 ?_
                refine to_in (pc := 18) rw_40_18 rfl ?_
                refine s_ias (pc := 19) rw_40_19 hG199 (by rcases hp with rfl | rfl <;> rfl) (n := 8) (by rcases hp with rfl | rfl <;> rfl) (A := (M.2.1 p 2).toInt) rfl (by omega) (by omega) (fun M203 W202 => ?_)
                have hG204 := g_w hG199 W202 (A := (M135.2.1 1 8).toInt) rfl (lo := 0) (hi := 63) (by rcases hp with rfl | rfl <;> rfl) (by rcases hp with rfl | rfl <;> rfl) (by omega) (by omega)
                have F205 := FR.w F200 W202 (show (p + 4) = 1 ∧ 6 ≤ ((M.2.1 p 2).toInt).toNat ∧ ((M.2.1 p 2).toInt).toNat ≤ 11 ∨ (p + 4) = p ∧ 2 ≤ ((M.2.1 p 2).toInt).toNat ∨ p + 1 ≤ (p + 4) ∧ (p + 4) ≤ p + 5 by omega)
                refine to_an (pc := 20) rw_40_20 rfl ?_
                refine s_gR (pc := 21) rw_40_21 hG204 (by rcases hp with rfl | rfl <;> rfl) (v := (p + 5)) (by rcases hp with rfl | rfl <;> rfl) ?_
                refine to_an (pc := 24) rw_40_24 rfl ?_
                have c_206 : M203.2.1 p 2 = (M.2.1 p 2) := (W_n W202 (by omega) c_201)
                refine tt_gI (pc := 25) rw_40_25 (g_o hG204 (by rcases hp with rfl | rfl <;> rfl)) (v := (M.2.1 p 2)) c_206 ?_
                refine to_in (pc := 28) rw_40_28 rfl ?_
                refine s_ias (pc := 29) rw_40_29 hG204 (by rcases hp with rfl | rfl <;> rfl) (n := 8) (by rcases hp with rfl | rfl <;> rfl) (A := (M.2.1 p 2).toInt) rfl (by omega) (by omega) (fun M208 W207 => ?_)
                have hG209 := g_w hG204 W207 (A := v194.toInt) rfl (lo := 0) (hi := 24) (by rcases hp with rfl | rfl <;> rfl) (by rcases hp with rfl | rfl <;> rfl) (by omega) (by omega)
                have F210 := FR.w F205 W207 (show (p + 5) = 1 ∧ 6 ≤ ((M.2.1 p 2).toInt).toNat ∧ ((M.2.1 p 2).toInt).toNat ≤ 11 ∨ (p + 5) = p ∧ 2 ≤ ((M.2.1 p 2).toInt).toNat ∨ p + 1 ≤ (p + 5) ∧ (p + 5) ≤ p + 5 by omega)
                refine to_rv (pc := 30) rw_40_30 ?_
                refine to_c (pc := 102) rw_36_102 (x := (1 : Int32)) rfl rfl ?_
                refine s_r1 (pc := 103) rw_36_103 (A := 1) rfl (by omega) ?_
                refine b_ieq_f (pc := 119) rw_33_119 (A := 1) rfl (by omega) ?_
                refine to_in (pc := 122) rw_33_122 rfl ?_
                refine b_ieq_t (pc := 123) rw_33_123 (A := r53.toInt) rfl (by omega) ?_
                refine to_c (pc := 134) rw_33_134 (x := (1 : Int32)) rfl rfl ?_
                refine to_go (pc := 135) rw_33_135 ?_
                refine to_isn (pc := 139) rw_33_139 (ls2 := [.ref p, .ref 1, .int r53, .int (1 : Int32)]) rfl rfl ?_
                refine to_in (pc := 140) rw_33_140 rfl ?_
                refine b_ine_t (pc := 141) rw_33_141 (A := 1) rfl (by omega) ?_
                refine to_an (pc := 146) rw_33_146 rfl ?_
                refine to_dupr (pc := 147) rw_33_147 ?_
                refine tt_gJ (pc := 148) rw_33_148 (g_o hG209 (by rcases hp with rfl | rfl <;> rfl)) (v := (M.2.2.1 p 4)) (W_j W207 (W_j W202 (W_j W197 (F_nl F186 (show ¬ (p = 1 ∧ 6 ≤ 4 ∧ 4 ≤ 9) by omega) (F_nl F170 (show ¬ (p = 1 ∧ (4 = 10 ∨ 4 = 11)) by omega) (F_nl F150 (show ¬ (p = 1 ∧ (4 = 10 ∨ 4 = 11)) by omega) (F_nl F131 (show ¬ (p = 1 ∧ 6 ≤ 4 ∧ 4 ≤ 9) by omega) (F_nl F115 (show ¬ (p = 1 ∧ (4 = 10 ∨ 4 = 11)) by omega) (F_nl F95 (show ¬ (p = 1 ∧ (4 = 10 ∨ 4 = 11)) by omega) (F_nl F84 (show ¬ (p = 1 ∧ 6 ≤ 4 ∧ 4 ≤ 9) by omega) (W_j W77 (F_nl F54 (show ¬ (p < 0) by omega) (F_nl F47 (show ¬ (p = 1 ∧ 6 ≤ 4 ∧ 4 ≤ 9) by omega) (W_j W40 (F_nl F23 (show ¬ (p = 1 ∧ (4 = 10 ∨ 4 = 11)) by omega) (F_nl F15 (show ¬ (p = 1 ∧ 6 ≤ 4 ∧ 4 ≤ 9) by omega) rfl)))))))))))))))) ?_
                refine to_an (pc := 151) rw_33_151 rfl ?_
                refine s_gR (pc := 152) rw_33_152 hG209 (by rcases hp with rfl | rfl <;> rfl) (v := (p + 3)) (by rcases hp with rfl | rfl <;> rfl) ?_
                refine to_an (pc := 155) rw_33_155 rfl ?_
                have c_211 : M208.2.1 p 2 = (M.2.1 p 2) := (W_n W207 (by omega) c_206)
                refine tt_gI (pc := 156) rw_33_156 (g_o hG209 (by rcases hp with rfl | rfl <;> rfl)) (v := (M.2.1 p 2)) c_211 ?_
                refine s_ialk (pc := 159) rw_33_159 hG209 (by rcases hp with rfl | rfl <;> rfl) (n := 8) (by rcases hp with rfl | rfl <;> rfl) (by rcases hp with rfl | rfl <;> rfl) (A := (M.2.1 p 2).toInt) rfl (by omega) (by omega) (v := (M88.2.1 1 8)) (W_n W207 (by omega) (W_n W202 (by omega) (W_e W197))) ?_
                refine to_an (pc := 160) rw_33_160 rfl ?_
                refine s_gR (pc := 161) rw_33_161 hG209 (by rcases hp with rfl | rfl <;> rfl) (v := (p + 4)) (by rcases hp with rfl | rfl <;> rfl) ?_
                refine to_an (pc := 164) rw_33_164 rfl ?_
                refine tt_gI (pc := 165) rw_33_165 (g_o hG209 (by rcases hp with rfl | rfl <;> rfl)) (v := (M.2.1 p 2)) c_211 ?_
                refine s_ialk (pc := 168) rw_33_168 hG209 (by rcases hp with rfl | rfl <;> rfl) (n := 8) (by rcases hp with rfl | rfl <;> rfl) (by rcases hp with rfl | rfl <;> rfl) (A := (M.2.1 p 2).toInt) rfl (by omega) (by omega) (v := (M135.2.1 1 8)) (W_n W207 (by omega) (W_e W202)) ?_
                refine s_s (pc := 169) rw_33_169 (by omega) (ls0 := [.int (M88.2.1 1 8), .int (M135.2.1 1 8)]) rfl (Nat.le_of_ble_eq_true rfl) (Nat.le_of_ble_eq_true rfl) rfl (to_rcs rfl rfl) rfl ?_
                refine to_cl (pc := 0) rw_144_0 rfl (x := (1 : Int64)) rfl ?_
                refine to_in (pc := 1) rw_144_1 rfl ?_
                refine to_in (pc := 2) rw_144_2 rfl ?_
                refine s_sub (pc := 3) rw_144_3 (A := (M135.2.1 1 8).toInt) (B := (M88.2.1 1 8).toInt) rfl rfl (by omega) (fun v216 e217 => ?_)
                refine to_c (pc := 4) rw_144_4 (x := (1 : Int32)) rfl rfl ?_
                refine s_add (pc := 5) rw_144_5 (A := v216.toInt) (B := 1) rfl rfl (by omega) (fun v218 e219 => ?_)
                refine to_2s (pc := 6) rw_144_6 (v := ((1 : Int64) <<< (v218.toInt64 &&& 63))) rfl ?_
                refine to_cl (pc := 7) rw_144_7 rfl (x := (1 : Int64)) rfl ?_
                refine to_2l (pc := 8) rw_144_8 (v := (((1 : Int64) <<< (v218.toInt64 &&& 63)) - (1 : Int64))) rfl ?_
                refine to_in (pc := 9) rw_144_9 rfl ?_
                refine to_2s (pc := 10) rw_144_10 (v := ((((1 : Int64) <<< (v218.toInt64 &&& 63)) - (1 : Int64)) <<< ((M88.2.1 1 8).toInt64 &&& 63))) rfl ?_
                refine to_rl (pc := 11) rw_144_11 ?_
                refine to_2l (pc := 172) rw_33_172 (v := ((M.2.2.1 p 4) ||| ((((1 : Int64) <<< (v218.toInt64 &&& 63)) - (1 : Int64)) <<< ((M88.2.1 1 8).toInt64 &&& 63)))) rfl ?_
                have j_220 := (PLc_f (fun a i z => W_n W207 (by omega) rfl) (W_j W207 rfl) (PLc_f (fun a i z => W_n W202 (by omega) rfl) (W_j W202 rfl) (PLc_f (fun a i z => W_n W197 (by omega) rfl) (W_j W197 rfl) (PLc_f (fun a i z => F_n F186 (show ¬ (a = 1 ∧ 6 ≤ i ∧ i ≤ 9) by omega) rfl) (F_nl F186 (show ¬ (p = 1 ∧ 6 ≤ 4 ∧ 4 ≤ 9) by omega) rfl) (PLc_f (fun a i z => F_n F170 (show ¬ (a = 1 ∧ (i = 10 ∨ i = 11)) by omega) rfl) (F_nl F170 (show ¬ (p = 1 ∧ (4 = 10 ∨ 4 = 11)) by omega) rfl) j_168)))))
                have r_221 : (M208.2.1 (p + 1) sg.2.1.toNat).toInt = (M19.2.1 1 8).toInt := by rw [show sg.2.1.toNat = ((M.2.1 p 2).toInt).toNat by omega, show M208.2.1 (p + 1) ((M.2.1 p 2).toInt).toNat = (M19.2.1 1 8) from (W_n W207 (by omega) (W_n W202 (by omega) (W_n W197 (by omega) (F_n F186 (show ¬ ((p + 1) = 1 ∧ 6 ≤ ((M.2.1 p 2).toInt).toNat ∧ ((M.2.1 p 2).toInt).toNat ≤ 9) by omega) (F_n F170 (show ¬ ((p + 1) = 1 ∧ (((M.2.1 p 2).toInt).toNat = 10 ∨ ((M.2.1 p 2).toInt).toNat = 11)) by omega) (F_n F150 (show ¬ ((p + 1) = 1 ∧ (((M.2.1 p 2).toInt).toNat = 10 ∨ ((M.2.1 p 2).toInt).toNat = 11)) by omega) (F_n F131 (show ¬ ((p + 1) = 1 ∧ 6 ≤ ((M.2.1 p 2).toInt).toNat ∧ ((M.2.1 p 2).toInt).toNat ≤ 9) by omega) (F_n F115 (show ¬ ((p + 1) = 1 ∧ (((M.2.1 p 2).toInt).toNat = 10 ∨ ((M.2.1 p 2).toInt).toNat = 11)) by omega) (F_n F95 (show ¬ ((p + 1) = 1 ∧ (((M.2.1 p 2).toInt).toNat = 10 ∨ ((M.2.1 p 2).toInt).toNat = 11)) by omega) (F_n F84 (show ¬ ((p + 1) = 1 ∧ 6 ≤ ((M.2.1 p 2).toInt).toNat ∧ ((M.2.1 p 2).toInt).toNat ≤ 9) by omega) (W_n W77 (by omega) (F_n F54 (show ¬ ((p + 1) < 0) by omega) (F_n F47 (show ¬ ((p + 1) = 1 ∧ 6 ≤ ((M.2.1 p 2).toInt).toNat ∧ ((M.2.1 p 2).toInt).toNat ≤ 9) by omega) (W_e W40))))))))))))))]
                have r_222 : (M208.2.1 (p + 2) sg.2.1.toNat).toInt = r53.toInt := by rw [show sg.2.1.toNat = ((M.2.1 p 2).toInt).toNat by omega, show M208.2.1 (p + 2) ((M.2.1 p 2).toInt).toNat = r53 from (W_n W207 (by omega) (W_n W202 (by omega) (W_n W197 (by omega) (F_n F186 (show ¬ ((p + 2) = 1 ∧ 6 ≤ ((M.2.1 p 2).toInt).toNat ∧ ((M.2.1 p 2).toInt).toNat ≤ 9) by omega) (F_n F170 (show ¬ ((p + 2) = 1 ∧ (((M.2.1 p 2).toInt).toNat = 10 ∨ ((M.2.1 p 2).toInt).toNat = 11)) by omega) (F_n F150 (show ¬ ((p + 2) = 1 ∧ (((M.2.1 p 2).toInt).toNat = 10 ∨ ((M.2.1 p 2).toInt).toNat = 11)) by omega) (F_n F131 (show ¬ ((p + 2) = 1 ∧ 6 ≤ ((M.2.1 p 2).toInt).toNat ∧ ((M.2.1 p 2).toInt).toNat ≤ 9) by omega) (F_n F115 (show ¬ ((p + 2) = 1 ∧ (((M.2.1 p 2).toInt).toNat = 10 ∨ ((M.2.1 p 2).toInt).toNat = 11)) by omega) (F_n F95 (show ¬ ((p + 2) = 1 ∧ (((M.2.1 p 2).toInt).toNat = 10 ∨ ((M.2.1 p 2).toInt).toNat = 11)) by omega) (F_n F84 (show ¬ ((p + 2) = 1 ∧ 6 ≤ ((M.2.1 p 2).toInt).toNat ∧ ((M.2.1 p 2).toInt).toNat ≤ 9) by omega) (W_e W77)))))))))))]
                have r_223 : (M208.2.1 (p + 3) sg.2.1.toNat).toInt = (M88.2.1 1 8).toInt := by rw [show sg.2.1.toNat = ((M.2.1 p 2).toInt).toNat by omega, show M208.2.1 (p + 3) ((M.2.1 p 2).toInt).toNat = (M88.2.1 1 8) from (W_n W207 (by omega) (W_n W202 (by omega) (W_e W197)))]
                have r_224 : (M208.2.1 (p + 4) sg.2.1.toNat).toInt = (M135.2.1 1 8).toInt := by rw [show sg.2.1.toNat = ((M.2.1 p 2).toInt).toNat by omega, show M208.2.1 (p + 4) ((M.2.1 p 2).toInt).toNat = (M135.2.1 1 8) from (W_n W207 (by omega) (W_e W202))]
                have r_225 : (M208.2.1 (p + 5) sg.2.1.toNat).toInt = v194.toInt := by rw [show sg.2.1.toNat = ((M.2.1 p 2).toInt).toNat by omega, show M208.2.1 (p + 5) ((M.2.1 p 2).toInt).toNat = v194 from (W_e W207)]
                refine s_pJ (pc := 173) rw_33_173 hG209 (by rcases hp with rfl | rfl <;> rfl) (fun M227 W226 => ?_)
                have hG228 := g_wl hG209 W226
                have F229 := FR.wl F210 W226 (show p = 1 ∧ 6 ≤ 4 ∧ 4 ≤ 11 ∨ p = p ∧ 2 ≤ 4 ∨ p + 1 ≤ p ∧ p ≤ p + 5 by omega)
                refine to_an (pc := 176) rw_33_176 rfl ?_
                refine to_dupr (pc := 177) rw_33_177 ?_
                have c_230 : M227.2.1 p 2 = (M.2.1 p 2) := (W_l W226 c_211)
                refine tt_gI (pc := 178) rw_33_178 (g_o hG228 (by rcases hp with rfl | rfl <;> rfl)) (v := (M.2.1 p 2)) c_230 ?_
                refine to_c (pc := 181) rw_33_181 (x := (1 : Int32)) rfl rfl ?_
                refine s_add (pc := 182) rw_33_182 (A := (M.2.1 p 2).toInt) (B := 1) rfl rfl (by omega) (fun v231 e232 => ?_)
                refine s_pI (pc := 183) rw_33_183 hG228 (by rcases hp with rfl | rfl <;> rfl) (fun M234 W233 => ?_)
                have hG235 := g_w hG228 W233 (A := v231.toInt) rfl (lo := 0) (hi := 8) (by rcases hp with rfl | rfl <;> rfl) (by rcases hp with rfl | rfl <;> rfl) (by omega) (by omega)
                have F236 := FR.w F229 W233 (show p = 1 ∧ 6 ≤ 2 ∧ 2 ≤ 11 ∨ p = p ∧ 2 ≤ 2 ∨ p + 1 ≤ p ∧ p ≤ p + 5 by omega)
                refine to_c (pc := 186) rw_33_186 (x := (1 : Int32)) rfl rfl ?_
                refine s_r1 (pc := 187) rw_33_187 (A := 1) rfl (by omega) ?_
                have k_237 : (1 : Int32).toInt = 1 := rfl
                have j_238 := (CS_f (fun a i z => W_n W233 (by omega) rfl) (CS_f (fun a i z => W_l W226 rfl) (CS_f (fun a i z => W_n W207 (by omega) rfl) (CS_f (fun a i z => W_n W202 (by omega) rfl) (CS_f (fun a i z => W_n W197 (by omega) rfl) p_188)))))
                have c_239 : M234.2.1 1 9 = (M190.2.1 1 9) := (W_n W233 (by omega) (W_l W226 (W_n W207 (by omega) (W_n W202 (by omega) (W_n W197 (by omega) rfl)))))
                have t_240 : (M234.2.1 1 9).toInt = (M190.2.1 1 9).toInt := congrArg Int32.toInt c_239
                have z_241 : x_fC t nn sg (x_ns t nn a) := by unfold x_fC; omega
                have j_242 := PLc_p (nm := (x_val t nn (x_ns t nn a))) (kd := 0) (f := (x_val t nn (x_ns t nn (x_ns t nn (x_ns t nn a))))) (l := (x_val t nn (x_ns t nn (x_ns t nn (x_ns t nn (x_ns t nn a)))))) (c := ((x_val t nn (x_ns t nn (x_ns t nn (x_ns t nn (x_ns t nn a))))) - (x_val t nn (x_ns t nn (x_ns t nn (x_ns t nn a)))) + 1)) j_220 W226 W233 (x_or_e q3 (by omega) (by omega)) (by omega) (by omega) (r_221.trans (by omega)) (r_222.trans (by omega)) (r_223.trans (by omega)) (r_224.trans (by omega)) (r_225.trans (by omega)) (by omega) (by omega) (by omega) (by omega)
                exact h (1 : Int32) M234 hG235 F236 (by omega) (by omega) j_238 (fun z => absurd z (by decide)) (fun _ => ⟨_, (by rw [show (M234.2.1 1 9).toInt = (x_ns t nn (x_ns t nn (x_ns t nn (x_ns t nn (x_ns t nn a))))) by omega]; exact x_field_0 z_241 (by omega)), j_242, (by show sg.2.1 + 1 + sg.2.2.1 = _; omega)⟩)
      · skip
        have p_243 := p_59 (by omega)
        clear p_58 p_59
        refine to_isn (pc := 50) rw_33_50 (ls2 := [.ref p, .ref 1, .int r53, .null]) rfl rfl ?_
        refine to_in (pc := 51) rw_33_51 rfl ?_
        refine to_c (pc := 52) rw_33_52 (x := (-1 : Int32)) rfl rfl ?_
        refine b_cne_t (pc := 53) rw_33_53 (A := r53.toInt) (B := -1) rfl rfl (by omega) ?_
        refine to_an (pc := 62) rw_33_62 rfl ?_
        refine s_gR (pc := 63) rw_33_63 hG55 (by rcases hp with rfl | rfl <;> rfl) (v := (p + 2)) (by rcases hp with rfl | rfl <;> rfl) ?_
        refine to_an (pc := 66) rw_33_66 rfl ?_
        have c_244 : M60.2.1 p 2 = (M.2.1 p 2) := (F_n F54 (show ¬ (p < 0) by omega) (F_n F47 (show ¬ (p = 1 ∧ 6 ≤ 2 ∧ 2 ≤ 9) by omega) (W_n W40 (by omega) c_38)))
        refine tt_gI (pc := 67) rw_33_67 (g_o hG55 (by rcases hp with rfl | rfl <;> rfl)) (v := (M.2.1 p 2)) c_244 ?_
        refine to_in (pc := 70) rw_33_70 rfl ?_
        refine s_ias (pc := 71) rw_33_71 hG55 (by rcases hp with rfl | rfl <;> rfl) (n := 8) (by rcases hp with rfl | rfl <;> rfl) (A := (M.2.1 p 2).toInt) rfl (by omega) (by omega) (fun M246 W245 => ?_)
        have hG247 := g_w hG55 W245 (A := r53.toInt) rfl (lo := 0) (hi := 3) (by rcases hp with rfl | rfl <;> rfl) (by rcases hp with rfl | rfl <;> rfl) (by omega) (by omega)
        have F248 := FR.w F61 W245 (show (p + 2) = 1 ∧ 6 ≤ ((M.2.1 p 2).toInt).toNat ∧ ((M.2.1 p 2).toInt).toNat ≤ 11 ∨ (p + 2) = p ∧ 2 ≤ ((M.2.1 p 2).toInt).toNat ∨ p + 1 ≤ (p + 2) ∧ (p + 2) ≤ p + 5 by omega)
        refine to_an (pc := 72) rw_33_72 rfl ?_
        refine s_v (pc := 73) rw_33_73 (by omega) (ls0 := [.ref 1]) rfl (Nat.le_of_ble_eq_true rfl) (Nat.le_of_ble_eq_true rfl) rfl (to_rc rfl rfl rfl (g_o hG247 rfl)) rfl ?_
        have j_249 := (CS_f (fun a i z => W_n W245 (by omega) rfl) (CS_f (fun a i z => F_n F54 (show ¬ (a < 0) by omega) rfl) p_49))
        have c_250 : M246.2.1 1 9 = (M51.2.1 1 9) := (W_n W245 (by omega) (F_n F54 (show ¬ (1 < 0) by omega) rfl))
        have t_251 : (M246.2.1 1 9).toInt = (M51.2.1 1 9).toInt := congrArg Int32.toInt c_250
        refine E_83 hX (by omega) hG247 j_249 (by omega) (t := t) (nn := nn) (a := (x_ns t nn (x_ns t nn a))) (fun M256 hG253 F252 p_254 p_255 => ?_)
        have F257 := FR.c F248 F252 (fun a i z => show a = 1 ∧ 6 ≤ i ∧ i ≤ 11 ∨ a = p ∧ 2 ≤ i ∨ p + 1 ≤ a ∧ a ≤ p + 5 by have z : a = 1 ∧ 6 ≤ i ∧ i ≤ 9 := z; omega)
        refine to_in (pc := 76) rw_33_76 rfl ?_
        refine to_c (pc := 77) rw_33_77 (x := (1 : Int32)) rfl rfl ?_
        refine b_ceq_t (pc := 78) rw_33_78 (A := r53.toInt) (B := 1) rfl rfl (by omega) ?_
        refine to_an (pc := 86) rw_33_86 rfl ?_
        refine to_an (pc := 87) rw_33_87 rfl ?_
        refine to_in (pc := 88) rw_33_88 rfl ?_
        refine to_c (pc := 89) rw_33_89 (x := (1 : Int32)) rfl rfl ?_
        refine b_cne_f (pc := 90) rw_33_90 (A := r53.toInt) (B := 1) rfl rfl (by omega) ?_
        refine to_c (pc := 93) rw_33_93 (x := (4 : Int32)) rfl rfl ?_
        refine to_go (pc := 94) rw_33_94 ?_
        refine s_v (pc := 98) rw_33_98 (by omega) (ls0 := [.ref p, .ref 1, .int (4 : Int32), .null, .null]) rfl (Nat.le_of_ble_eq_true rfl) (Nat.le_of_ble_eq_true rfl) rfl (to_rc rfl rfl rfl (g_o hG253 (by rcases hp with rfl | rfl <;> rfl))) rfl ?_
        refine to_an (pc := 0) rw_37_0 rfl ?_
        refine tt_gI (pc := 1) rw_37_1 (g_o hG253 rfl) (v := (M256.2.1 1 8)) rfl ?_
        refine to_isn (pc := 4) rw_37_4 (ls2 := [.ref p, .ref 1, .int (4 : Int32), .int (M256.2.1 1 8), .null]) rfl rfl ?_
        refine to_in (pc := 5) rw_37_5 rfl ?_
        refine to_in (pc := 6) rw_37_6 rfl ?_
        refine s_addo (pc := 7) rw_37_7 (A := (M256.2.1 1 8).toInt) (B := 4) rfl rfl (fun v258 e259 => ?_)
        refine to_c (pc := 8) rw_37_8 (x := (1 : Int32)) rfl rfl ?_
        refine s_subo (pc := 9) rw_37_9 (A := v258.toInt) (B := 1) rfl rfl (fun v260 e261 => ?_)
        refine to_is (pc := 10) rw_37_10 (ls2 := [.ref p, .ref 1, .int (4 : Int32), .int (M256.2.1 1 8), .int v260]) rfl rfl ?_
        refine to_an (pc := 12) rw_37_12 rfl ?_
        refine to_c (pc := 13) rw_37_13 (x := (0 : Int32)) rfl rfl ?_
        refine to_an (pc := 14) rw_37_14 rfl ?_
        have c_262 : M256.2.1 p 0 = (M.2.1 p 0) := (F_n F252 (show ¬ (p = 1 ∧ 6 ≤ 0 ∧ 0 ≤ 9) by omega) (W_n W245 (by omega) (F_n F54 (show ¬ (p < 0) by omega) (F_n F47 (show ¬ (p = 1 ∧ 6 ≤ 0 ∧ 0 ≤ 9) by omega) (W_n W40 (by omega) (F_n F23 (show ¬ (p = 1 ∧ (0 = 10 ∨ 0 = 11)) by omega) (F_n F15 (show ¬ (p = 1 ∧ 6 ≤ 0 ∧ 0 ≤ 9) by omega) rfl)))))))
        refine tt_gI (pc := 15) rw_37_15 (g_o hG253 (by rcases hp with rfl | rfl <;> rfl)) (v := (M.2.1 p 0)) c_262 ?_
        refine to_in (pc := 18) rw_37_18 rfl ?_
        refine s_sub (pc := 19) rw_37_19 (A := (M.2.1 p 0).toInt) (B := 4) rfl rfl (by omega) (fun v263 e264 => ?_)
        refine s_v (pc := 20) rw_37_20 (by omega) (ls0 := [.ref 1, .int (0 : Int32), .int v263]) rfl (Nat.le_of_ble_eq_true rfl) (Nat.le_of_ble_eq_true rfl) rfl (to_rc rfl rfl rfl (g_o hG253 rfl)) rfl ?_
        have k_265 : (0 : Int32).toInt = 0 := rfl
        refine E_88 hX (by omega) hG253 p_254 (by omega) (l := (0 : Int32)) (m := v263) (t := t) (nn := nn) (a := (x_ns t nn (x_ns t nn (x_ns t nn a)))) (fun r266 M273 hG268 F267 p_269 p_270 p_271 p_272 => ?_)
        have F274 := FR.c F257 F267 (fun a i z => show a = 1 ∧ 6 ≤ i ∧ i ≤ 11 ∨ a = p ∧ 2 ≤ i ∨ p + 1 ≤ a ∧ a ≤ p + 5 by have z : a = 1 ∧ (i = 10 ∨ i = 11) := z; omega)
        rcases (show r266.toInt = 0 ∨ r266.toInt = 1 by omega) with h275 | h275
        · skip
          have p_276 := p_272 (by omega)
          clear p_271 p_272
          have z_277 := x_val_b (t := t) (nn := nn) (a := (x_ns t nn (x_ns t nn (x_ns t nn a))))
          refine b_ieq_t (pc := 23) rw_37_23 (A := r266.toInt) rfl (by omega) ?_
          refine to_c (pc := 37) rw_37_37 (x := (0 : Int32)) rfl rfl ?_
          refine s_r1 (pc := 38) rw_37_38 (A := 0) rfl (by omega) ?_
          refine to_isn (pc := 101) rw_33_101 (ls2 := [.ref p, .ref 1, .int r53, .int (0 : Int32)]) rfl rfl ?_
          refine to_go (pc := 102) rw_33_102 ?_
          refine to_in (pc := 140) rw_33_140 rfl ?_
          refine b_ine_f (pc := 141) rw_33_141 (A := 0) rfl (by omega) ?_
          refine to_c (pc := 144) rw_33_144 (x := (0 : Int32)) rfl rfl ?_
          refine s_r1 (pc := 145) rw_33_145 (A := 0) rfl (by omega) ?_
          have j_278 := (CS_f (fun a i z => F_n F267 (show ¬ (a = 1 ∧ (i = 10 ∨ i = 11)) by omega) rfl) p_254)
          exact h (0 : Int32) M273 hG268 F274 (by omega) (by omega) j_278 (fun _ => x_field_n (fun h9 => by unfold x_fC at h9; omega)) (fun z => absurd z (by decide))
        · skip
          have p_279 := p_271 (by omega)
          clear p_271 p_272
          have c_280 : M273.2.1 1 8 = (M256.2.1 1 8) := (F_n F267 (show ¬ (1 = 1 ∧ (8 = 10 ∨ 8 = 11)) by omega) rfl)
          have z_281 := x_val_b (t := t) (nn := nn) (a := (x_ns t nn (x_ns t nn (x_ns t nn a)))) (by omega)
          refine b_ieq_f (pc := 23) rw_37_23 (A := r266.toInt) rfl (by omega) ?_
          refine to_an (pc := 26) rw_37_26 rfl ?_
          refine to_an (pc := 27) rw_37_27 rfl ?_
          refine to_in (pc := 28) rw_37_28 rfl ?_
          refine to_i (pc := 29) rw_37_29 rfl ?_
          refine s_v (pc := 31) rw_37_31 (by omega) (ls0 := [.ref p, .ref 1, .int (M256.2.1 1 8), .int v260]) rfl (Nat.le_of_ble_eq_true rfl) (Nat.le_of_ble_eq_true rfl) rfl (to_rc rfl rfl rfl (g_o hG268 (by rcases hp with rfl | rfl <;> rfl))) rfl ?_
          have j_282 := (CS_f (fun a i z => F_n F267 (show ¬ (a = 1 ∧ (i = 10 ∨ i = 11)) by omega) rfl) p_254)
          have c_283 : M273.2.1 1 9 = (M256.2.1 1 9) := (F_n F267 (show ¬ (1 = 1 ∧ (9 = 10 ∨ 9 = 11)) by omega) rfl)
          have t_284 : (M273.2.1 1 9).toInt = (M256.2.1 1 9).toInt := congrArg Int32.toInt c_283
          have j_285 := (PLc_f (fun a i z => F_n F267 (show ¬ (a = 1 ∧ (i = 10 ∨ i = 11)) by omega) rfl) (F_nl F267 (show ¬ (p = 1 ∧ (4 = 10 ∨ 4 = 11)) by omega) rfl) (PLc_f (fun a i z => F_n F252 (show ¬ (a = 1 ∧ 6 ≤ i ∧ i ≤ 9) by omega) rfl) (F_nl F252 (show ¬ (p = 1 ∧ 6 ≤ 4 ∧ 4 ≤ 9) by omega) rfl) (PLc_f (fun a i z => W_n W245 (by omega) rfl) (W_j W245 rfl) (PLc_f (fun a i z => F_n F54 (show ¬ (a < 0) by omega) rfl) (F_nl F54 (show ¬ (p < 0) by omega) rfl) (PLc_f (fun a i z => F_n F47 (show ¬ (a = 1 ∧ 6 ≤ i ∧ i ≤ 9) by omega) rfl) (F_nl F47 (show ¬ (p = 1 ∧ 6 ≤ 4 ∧ 4 ≤ 9) by omega) rfl) (PLc_f (fun a i z => W_n W40 (by omega) rfl) (W_j W40 rfl) (PLc_f (fun a i z => F_n F23 (show ¬ (a = 1 ∧ (i = 10 ∨ i = 11)) by omega) rfl) (F_nl F23 (show ¬ (p = 1 ∧ (4 = 10 ∨ 4 = 11)) by omega) rfl) j_21)))))))
          refine E_39 hX (by omega) hG268 hp j_282 (by omega) j_285 (by omega) (by omega) (by omega) (by omega) (by omega) (p := p) (f := (M256.2.1 1 8)) (l := v260) (t := t) (nn := nn) (a := (x_ns t nn (x_ns t nn (x_ns t nn a)))) (sg := sg) (fun r286 M293 hG288 F287 p_289 p_290 p_291 p_292 => ?_)
          have F294 := FR.c F274 F287 (fun a i z => show a = 1 ∧ 6 ≤ i ∧ i ≤ 11 ∨ a = p ∧ 2 ≤ i ∨ p + 1 ≤ a ∧ a ≤ p + 5 by have z : a = 1 ∧ (i = 10 ∨ i = 11) := z; omega)
          have z_295 := x_free_v (s := sg) (f := (M256.2.1 1 8).toInt) (l := v260.toInt) (f2 := (x_val t nn (x_ns t nn (x_ns t nn (x_ns t nn a))))) (l2 := ((x_val t nn (x_ns t nn (x_ns t nn (x_ns t nn a)))) + ((x_kx (x_val t nn (x_ns t nn (x_ns t nn a)))) - 1))) (by omega) (by omega)
          rcases (show r286.toInt = 0 ∨ r286.toInt = 1 by omega) with h296 | h296
          · skip
            have p_297 := p_292 (by omega)
            clear p_291 p_292
            refine b_ine_f (pc := 34) rw_37_34 (A := r286.toInt) rfl (by omega) ?_
            refine to_c (pc := 37) rw_37_37 (x := (0 : Int32)) rfl rfl ?_
            refine s_r1 (pc := 38) rw_37_38 (A := 0) rfl (by omega) ?_
            refine to_isn (pc := 101) rw_33_101 (ls2 := [.ref p, .ref 1, .int r53, .int (0 : Int32)]) rfl rfl ?_
            refine to_go (pc := 102) rw_33_102 ?_
            refine to_in (pc := 140) rw_33_140 rfl ?_
            refine b_ine_f (pc := 141) rw_33_141 (A := 0) rfl (by omega) ?_
            refine to_c (pc := 144) rw_33_144 (x := (0 : Int32)) rfl rfl ?_
            refine s_r1 (pc := 145) rw_33_145 (A := 0) rfl (by omega) ?_
            have j_298 := (CS_f (fun a i z => F_n F287 (show ¬ (a = 1 ∧ (i = 10 ∨ i = 11)) by omega) rfl) j_282)
            exact h (0 : Int32) M293 hG288 F294 (by omega) (by omega) j_298 (fun _ => x_field_n (fun h9 => by unfold x_fC at h9; omega)) (fun z => absurd z (by decide))
          · skip
            have p_299 := p_291 (by omega)
            clear p_291 p_292
            refine b_ine_t (pc := 34) rw_37_34 (A := r286.toInt) rfl (by omega) ?_
            refine to_an (pc := 39) rw_37_39 rfl ?_
            refine s_v (pc := 40) rw_37_40 (by omega) (ls0 := [.ref 1]) rfl (Nat.le_of_ble_eq_true rfl) (Nat.le_of_ble_eq_true rfl) rfl (to_rc rfl rfl rfl (g_o hG288 rfl)) rfl ?_
            have j_300 := (CS_f (fun a i z => F_n F287 (show ¬ (a = 1 ∧ (i = 10 ∨ i = 11)) by omega) rfl) j_282)
            have c_301 : M293.2.1 1 9 = (M256.2.1 1 9) := (F_n F287 (show ¬ (1 = 1 ∧ (9 = 10 ∨ 9 = 11)) by omega) c_283)
            have t_302 : (M293.2.1 1 9).toInt = (M256.2.1 1 9).toInt := congrArg Int32.toInt c_301
            refine E_83 hX (by omega) hG288 j_300 (by omega) (t := t) (nn := nn) (a := (x_ns t nn (x_ns t nn (x_ns t nn a)))) (fun M307 hG304 F303 p_305 p_306 => ?_)
            have F308 := FR.c F294 F303 (fun a i z => show a = 1 ∧ 6 ≤ i ∧ i ≤ 11 ∨ a = p ∧ 2 ≤ i ∨ p + 1 ≤ a ∧ a ≤ p + 5 by have z : a = 1 ∧ 6 ≤ i ∧ i ≤ 9 := z; omega)
            refine to_an (pc := 43) rw_37_43 rfl ?_
            refine to_in (pc := 44) rw_37_44 rfl ?_
            refine to_i (pc := 45) rw_37_45 rfl ?_
            refine to_c (pc := 47) rw_37_47 (x := (10 : Int32)) rfl rfl ?_
            refine s_v (pc := 49) rw_37_49 (by omega) (ls0 := [.ref p, .int (M256.2.1 1 8), .int v260, .int (10 : Int32)]) rfl (Nat.le_of_ble_eq_true rfl) (Nat.le_of_ble_eq_true rfl) rfl (to_rc rfl rfl rfl (g_o hG304 (by rcases hp with rfl | rfl <;> rfl))) rfl ?_
            refine to_an (pc := 0) rw_40_0 rfl ?_
            refine s_gR (pc := 1) rw_40_1 hG304 (by rcases hp with rfl | rfl <;> rfl) (v := (p + 3)) (by rcases hp with rfl | rfl <;> rfl) ?_
            refine to_an (pc := 4) rw_40_4 rfl ?_
            have c_309 : M307.2.1 p 2 = (M.2.1 p 2) := (F_n F303 (show ¬ (p = 1 ∧ 6 ≤ 2 ∧ 2 ≤ 9) by omega) (F_n F287 (show ¬ (p = 1 ∧ (2 = 10 ∨ 2 = 11)) by omega) (F_n F267 (show ¬ (p = 1 ∧ (2 = 10 ∨ 2 = 11)) by omega) (F_n F252 (show ¬ (p = 1 ∧ 6 ≤ 2 ∧ 2 ≤ 9) by omega) (W_n W245 (by omega) c_244)))))
            refine tt_gI (pc := 5) rw_40_5 (g_o hG304 (by rcases hp with rfl | rfl <;> rfl)) (v := (M.2.1 p 2)) c_309 ?_
            refine to_in (pc := 8) rw_40_8 rfl ?_
            refine s_ias (pc := 9) rw_40_9 hG304 (by rcases hp with rfl | rfl <;> rfl) (n := 8) (by rcases hp with rfl | rfl <;> rfl) (A := (M.2.1 p 2).toInt) rfl (by omega) (by omega) (fun M311 W310 => ?_)
            have hG312 := g_w hG304 W310 (A := (M256.2.1 1 8).toInt) rfl (lo := 0) (hi := 59) (by rcases hp with rfl | rfl <;> rfl) (by rcases hp with rfl | rfl <;> rfl) (by omega) (by omega)
            have F313 := FR.w F308 W310 (show (p + 3) = 1 ∧ 6 ≤ ((M.2.1 p 2).toInt).toNat ∧ ((M.2.1 p 2).toInt).toNat ≤ 11 ∨ (p + 3) = p ∧ 2 ≤ ((M.2.1 p 2).toInt).toNat ∨ p + 1 ≤ (p + 3) ∧ (p + 3) ≤ p + 5 by omega)
            refine to_an (pc := 10) rw_40_10 rfl ?_
            refine s_gR (pc := 11) rw_40_11 hG312 (by rcases hp with rfl | rfl <;> rfl) (v := (p + 4)) (by rcases hp with rfl | rfl <;> rfl) ?_
            refine to_an (pc := 14) rw_40_14 rfl ?_
            have c_314 : M311.2.1 p 2 = (M.2.1 p 2) := (W_n W310 (by omega) c_309)
            refine tt_gI (pc := 15) rw_40_15 (g_o hG312 (by rcases hp with rfl | rfl <;> rfl)) (v := (M.2.1 p 2)) c_314 ?_
            refine to_in (pc := 18) rw_40_18 rfl ?_
            refine s_ias (pc := 19) rw_40_19 hG312 (by rcases hp with rfl | rfl <;> rfl) (n := 8) (by rcases hp with rfl | rfl <;> rfl) (A := (M.2.1 p 2).toInt) rfl (by omega) (by omega) (fun M316 W315 => ?_)
            have hG317 := g_w hG312 W315 (A := v260.toInt) rfl (lo := 0) (hi := 63) (by rcases hp with rfl | rfl <;> rfl) (by rcases hp with rfl | rfl <;> rfl) (by omega) (by omega)
            have F318 := FR.w F313 W315 (show (p + 4) = 1 ∧ 6 ≤ ((M.2.1 p 2).toInt).toNat ∧ ((M.2.1 p 2).toInt).toNat ≤ 11 ∨ (p + 4) = p ∧ 2 ≤ ((M.2.1 p 2).toInt).toNat ∨ p + 1 ≤ (p + 4) ∧ (p + 4) ≤ p + 5 by omega)
            refine to_an (pc := 20) rw_40_20 rfl ?_
            refine s_gR (pc := 21) rw_40_21 hG317 (by rcases hp with rfl | rfl <;> rfl) (v := (p + 5)) (by rcases hp with rfl | rfl <;> rfl) ?_
            refine to_an (pc := 24) rw_40_24 rfl ?_
            have c_319 : M316.2.1 p 2 = (M.2.1 p 2) := (W_n W315 (by omega) c_314)
            refine tt_gI (pc := 25) rw_40_25 (g_o hG317 (by rcases hp with rfl | rfl <;> rfl)) (v := (M.2.1 p 2)) c_319 ?_
            refine to_in (pc := 28) rw_40_28 rfl ?_
            refine s_ias (pc := 29) rw_40_29 hG317 (by rcases hp with rfl | rfl <;> rfl) (n := 8) (by rcases hp with rfl | rfl <;> rfl) (A := (M.2.1 p 2).toInt) rfl (by omega) (by omega) (fun M321 W320 => ?_)
            have hG322 := g_w hG317 W320 (A := 10) rfl (lo := 0) (hi := 24) (by rcases hp with rfl | rfl <;> rfl) (by rcases hp with rfl | rfl <;> rfl) (by omega) (by omega)
            have F323 := FR.w F318 W320 (show (p + 5) = 1 ∧ 6 ≤ ((M.2.1 p 2).toInt).toNat ∧ ((M.2.1 p 2).toInt).toNat ≤ 11 ∨ (p + 5) = p ∧ 2 ≤ ((M.2.1 p 2).toInt).toNat ∨ p + 1 ≤ (p + 5) ∧ (p + 5) ≤ p + 5 by omega)
            refine to_rv (pc := 30) rw_40_30 ?_
            refine to_c (pc := 52) rw_37_52 (x := (1 : Int32)) rfl rfl ?_
            refine s_r1 (pc := 53) rw_37_53 (A := 1) rfl (by omega) ?_
            refine to_isn (pc := 101) rw_33_101 (ls2 := [.ref p, .ref 1, .int r53, .int (1 : Int32)]) rfl rfl ?_
            refine to_go (pc := 102) rw_33_102 ?_
            refine to_in (pc := 140) rw_33_140 rfl ?_
            refine b_ine_t (pc := 141) rw_33_141 (A := 1) rfl (by omega) ?_
            refine to_an (pc := 146) rw_33_146 rfl ?_
            refine to_dupr (pc := 147) rw_33_147 ?_
            refine tt_gJ (pc := 148) rw_33_148 (g_o hG322 (by rcases hp with rfl | rfl <;> rfl)) (v := (M.2.2.1 p 4)) (W_j W320 (W_j W315 (W_j W310 (F_nl F303 (show ¬ (p = 1 ∧ 6 ≤ 4 ∧ 4 ≤ 9) by omega) (F_nl F287 (show ¬ (p = 1 ∧ (4 = 10 ∨ 4 = 11)) by omega) (F_nl F267 (show ¬ (p = 1 ∧ (4 = 10 ∨ 4 = 11)) by omega) (F_nl F252 (show ¬ (p = 1 ∧ 6 ≤ 4 ∧ 4 ≤ 9) by omega) (W_j W245 (F_nl F54 (show ¬ (p < 0) by omega) (F_nl F47 (show ¬ (p = 1 ∧ 6 ≤ 4 ∧ 4 ≤ 9) by omega) (W_j W40 (F_nl F23 (show ¬ (p = 1 ∧ (4 = 10 ∨ 4 = 11)) by omega) (F_nl F15 (show ¬ (p = 1 ∧ 6 ≤ 4 ∧ 4 ≤ 9) by omega) rfl))))))))))))) ?_
            refine to_an (pc := 151) rw_33_151 rfl ?_
            refine s_gR (pc := 152) rw_33_152 hG322 (by rcases hp with rfl | rfl <;> rfl) (v := (p + 3)) (by rcases hp with rfl | rfl <;> rfl) ?_
            refine to_an (pc := 155) rw_33_155 rfl ?_
            have c_324 : M321.2.1 p 2 = (M.2.1 p 2) := (W_n W320 (by omega) c_319)
            refine tt_gI (pc := 156) rw_33_156 (g_o hG322 (by rcases hp with rfl | rfl <;> rfl)) (v := (M.2.1 p 2)) c_324 ?_
            refine s_ialk (pc := 159) rw_33_159 hG322 (by rcases hp with rfl | rfl <;> rfl) (n := 8) (by rcases hp with rfl | rfl <;> rfl) (by rcases hp with rfl | rfl <;> rfl) (A := (M.2.1 p 2).toInt) rfl (by omega) (by omega) (v := (M256.2.1 1 8)) (W_n W320 (by omega) (W_n W315 (by omega) (W_e W310))) ?_
            refine to_an (pc := 160) rw_33_160 rfl ?_
            refine s_gR (pc := 161) rw_33_161 hG322 (by rcases hp with rfl | rfl <;> rfl) (v := (p + 4)) (by rcases hp with rfl | rfl <;> rfl) ?_
            refine to_an (pc := 164) rw_33_164 rfl ?_
            refine tt_gI (pc := 165) rw_33_165 (g_o hG322 (by rcases hp with rfl | rfl <;> rfl)) (v := (M.2.1 p 2)) c_324 ?_
            refine s_ialk (pc := 168) rw_33_168 hG322 (by rcases hp with rfl | rfl <;> rfl) (n := 8) (by rcases hp with rfl | rfl <;> rfl) (by rcases hp with rfl | rfl <;> rfl) (A := (M.2.1 p 2).toInt) rfl (by omega) (by omega) (v := v260) (W_n W320 (by omega) (W_e W315)) ?_
            refine s_s (pc := 169) rw_33_169 (by omega) (ls0 := [.int (M256.2.1 1 8), .int v260]) rfl (Nat.le_of_ble_eq_true rfl) (Nat.le_of_ble_eq_true rfl) rfl (to_rcs rfl rfl) rfl ?_
            refine to_cl (pc := 0) rw_144_0 rfl (x := (1 : Int64)) rfl ?_
            refine to_in (pc := 1) rw_144_1 rfl ?_
            refine to_in (pc := 2) rw_144_2 rfl ?_
            refine s_sub (pc := 3) rw_144_3 (A := v260.toInt) (B := (M256.2.1 1 8).toInt) rfl rfl (by omega) (fun v329 e330 => ?_)
            refine to_c (pc := 4) rw_144_4 (x := (1 : Int32)) rfl rfl ?_
            refine s_add (pc := 5) rw_144_5 (A := v329.toInt) (B := 1) rfl rfl (by omega) (fun v331 e332 => ?_)
            refine to_2s (pc := 6) rw_144_6 (v := ((1 : Int64) <<< (v331.toInt64 &&& 63))) rfl ?_
            refine to_cl (pc := 7) rw_144_7 rfl (x := (1 : Int64)) rfl ?_
            refine to_2l (pc := 8) rw_144_8 (v := (((1 : Int64) <<< (v331.toInt64 &&& 63)) - (1 : Int64))) rfl ?_
            refine to_in (pc := 9) rw_144_9 rfl ?_
            refine to_2s (pc := 10) rw_144_10 (v := ((((1 : Int64) <<< (v331.toInt64 &&& 63)) - (1 : Int64)) <<< ((M256.2.1 1 8).toInt64 &&& 63))) rfl ?_
            refine to_rl (pc := 11) rw_144_11 ?_
            refine to_2l (pc := 172) rw_33_172 (v := ((M.2.2.1 p 4) ||| ((((1 : Int64) <<< (v331.toInt64 &&& 63)) - (1 : Int64)) <<< ((M256.2.1 1 8).toInt64 &&& 63)))) rfl ?_
            have j_333 := (PLc_f (fun a i z => W_n W320 (by omega) rfl) (W_j W320 rfl) (PLc_f (fun a i z => W_n W315 (by omega) rfl) (W_j W315 rfl) (PLc_f (fun a i z => W_n W310 (by omega) rfl) (W_j W310 rfl) (PLc_f (fun a i z => F_n F303 (show ¬ (a = 1 ∧ 6 ≤ i ∧ i ≤ 9) by omega) rfl) (F_nl F303 (show ¬ (p = 1 ∧ 6 ≤ 4 ∧ 4 ≤ 9) by omega) rfl) (PLc_f (fun a i z => F_n F287 (show ¬ (a = 1 ∧ (i = 10 ∨ i = 11)) by omega) rfl) (F_nl F287 (show ¬ (p = 1 ∧ (4 = 10 ∨ 4 = 11)) by omega) rfl) j_285)))))
            have r_334 : (M321.2.1 (p + 1) sg.2.1.toNat).toInt = (M19.2.1 1 8).toInt := by rw [show sg.2.1.toNat = ((M.2.1 p 2).toInt).toNat by omega, show M321.2.1 (p + 1) ((M.2.1 p 2).toInt).toNat = (M19.2.1 1 8) from (W_n W320 (by omega) (W_n W315 (by omega) (W_n W310 (by omega) (F_n F303 (show ¬ ((p + 1) = 1 ∧ 6 ≤ ((M.2.1 p 2).toInt).toNat ∧ ((M.2.1 p 2).toInt).toNat ≤ 9) by omega) (F_n F287 (show ¬ ((p + 1) = 1 ∧ (((M.2.1 p 2).toInt).toNat = 10 ∨ ((M.2.1 p 2).toInt).toNat = 11)) by omega) (F_n F267 (show ¬ ((p + 1) = 1 ∧ (((M.2.1 p 2).toInt).toNat = 10 ∨ ((M.2.1 p 2).toInt).toNat = 11)) by omega) (F_n F252 (show ¬ ((p + 1) = 1 ∧ 6 ≤ ((M.2.1 p 2).toInt).toNat ∧ ((M.2.1 p 2).toInt).toNat ≤ 9) by omega) (W_n W245 (by omega) (F_n F54 (show ¬ ((p + 1) < 0) by omega) (F_n F47 (show ¬ ((p + 1) = 1 ∧ 6 ≤ ((M.2.1 p 2).toInt).toNat ∧ ((M.2.1 p 2).toInt).toNat ≤ 9) by omega) (W_e W40)))))))))))]
            have r_335 : (M321.2.1 (p + 2) sg.2.1.toNat).toInt = r53.toInt := by rw [show sg.2.1.toNat = ((M.2.1 p 2).toInt).toNat by omega, show M321.2.1 (p + 2) ((M.2.1 p 2).toInt).toNat = r53 from (W_n W320 (by omega) (W_n W315 (by omega) (W_n W310 (by omega) (F_n F303 (show ¬ ((p + 2) = 1 ∧ 6 ≤ ((M.2.1 p 2).toInt).toNat ∧ ((M.2.1 p 2).toInt).toNat ≤ 9) by omega) (F_n F287 (show ¬ ((p + 2) = 1 ∧ (((M.2.1 p 2).toInt).toNat = 10 ∨ ((M.2.1 p 2).toInt).toNat = 11)) by omega) (F_n F267 (show ¬ ((p + 2) = 1 ∧ (((M.2.1 p 2).toInt).toNat = 10 ∨ ((M.2.1 p 2).toInt).toNat = 11)) by omega) (F_n F252 (show ¬ ((p + 2) = 1 ∧ 6 ≤ ((M.2.1 p 2).toInt).toNat ∧ ((M.2.1 p 2).toInt).toNat ≤ 9) by omega) (W_e W245))))))))]
            have r_336 : (M321.2.1 (p + 3) sg.2.1.toNat).toInt = (M256.2.1 1 8).toInt := by rw [show sg.2.1.toNat = ((M.2.1 p 2).toInt).toNat by omega, show M321.2.1 (p + 3) ((M.2.1 p 2).toInt).toNat = (M256.2.1 1 8) from (W_n W320 (by omega) (W_n W315 (by omega) (W_e W310)))]
            have r_337 : (M321.2.1 (p + 4) sg.2.1.toNat).toInt = v260.toInt := by rw [show sg.2.1.toNat = ((M.2.1 p 2).toInt).toNat by omega, show M321.2.1 (p + 4) ((M.2.1 p 2).toInt).toNat = v260 from (W_n W320 (by omega) (W_e W315))]
            have k_338 : (10 : Int32).toInt = 10 := rfl
            have r_339 : (M321.2.1 (p + 5) sg.2.1.toNat).toInt = (10 : Int32).toInt := by rw [show sg.2.1.toNat = ((M.2.1 p 2).toInt).toNat by omega, show M321.2.1 (p + 5) ((M.2.1 p 2).toInt).toNat = (10 : Int32) from (W_e W320)]
            refine s_pJ (pc := 173) rw_33_173 hG322 (by rcases hp with rfl | rfl <;> rfl) (fun M341 W340 => ?_)
            have hG342 := g_wl hG322 W340
            have F343 := FR.wl F323 W340 (show p = 1 ∧ 6 ≤ 4 ∧ 4 ≤ 11 ∨ p = p ∧ 2 ≤ 4 ∨ p + 1 ≤ p ∧ p ≤ p + 5 by omega)
            refine to_an (pc := 176) rw_33_176 rfl ?_
            refine to_dupr (pc := 177) rw_33_177 ?_
            have c_344 : M341.2.1 p 2 = (M.2.1 p 2) := (W_l W340 c_324)
            refine tt_gI (pc := 178) rw_33_178 (g_o hG342 (by rcases hp with rfl | rfl <;> rfl)) (v := (M.2.1 p 2)) c_344 ?_
            refine to_c (pc := 181) rw_33_181 (x := (1 : Int32)) rfl rfl ?_
            refine s_add (pc := 182) rw_33_182 (A := (M.2.1 p 2).toInt) (B := 1) rfl rfl (by omega) (fun v345 e346 => ?_)
            refine s_pI (pc := 183) rw_33_183 hG342 (by rcases hp with rfl | rfl <;> rfl) (fun M348 W347 => ?_)
            have hG349 := g_w hG342 W347 (A := v345.toInt) rfl (lo := 0) (hi := 8) (by rcases hp with rfl | rfl <;> rfl) (by rcases hp with rfl | rfl <;> rfl) (by omega) (by omega)
            have F350 := FR.w F343 W347 (show p = 1 ∧ 6 ≤ 2 ∧ 2 ≤ 11 ∨ p = p ∧ 2 ≤ 2 ∨ p + 1 ≤ p ∧ p ≤ p + 5 by omega)
            refine to_c (pc := 186) rw_33_186 (x := (1 : Int32)) rfl rfl ?_
            refine s_r1 (pc := 187) rw_33_187 (A := 1) rfl (by omega) ?_
            have k_351 : (1 : Int32).toInt = 1 := rfl
            have j_352 := (CS_f (fun a i z => W_n W347 (by omega) rfl) (CS_f (fun a i z => W_l W340 rfl) (CS_f (fun a i z => W_n W320 (by omega) rfl) (CS_f (fun a i z => W_n W315 (by omega) rfl) (CS_f (fun a i z => W_n W310 (by omega) rfl) p_305)))))
            have c_353 : M348.2.1 1 9 = (M307.2.1 1 9) := (W_n W347 (by omega) (W_l W340 (W_n W320 (by omega) (W_n W315 (by omega) (W_n W310 (by omega) rfl)))))
            have t_354 : (M348.2.1 1 9).toInt = (M307.2.1 1 9).toInt := congrArg Int32.toInt c_353
            have z_355 : x_fC t nn sg (x_ns t nn a) := by unfold x_fC; omega
            have j_356 := PLc_p (nm := (x_val t nn (x_ns t nn a))) (kd := ((x_kx (x_val t nn (x_ns t nn (x_ns t nn a)))) - 3)) (f := (x_val t nn (x_ns t nn (x_ns t nn (x_ns t nn a))))) (l := ((x_val t nn (x_ns t nn (x_ns t nn (x_ns t nn a)))) + ((x_kx (x_val t nn (x_ns t nn (x_ns t nn a)))) - 1))) (c := 10) j_333 W340 W347 (x_or_e q3 (by omega) (by omega)) (by omega) (by omega) (r_334.trans (by omega)) (r_335.trans (by omega)) (r_336.trans (by omega)) (r_337.trans (by omega)) (r_339.trans (by omega)) (by omega) (by omega) (by omega) (by omega)
            exact h (1 : Int32) M348 hG349 F350 (by omega) (by omega) j_352 (fun z => absurd z (by decide)) (fun _ => ⟨_, (by rw [show (M348.2.1 1 9).toInt = (x_ns t nn (x_ns t nn (x_ns t nn (x_ns t nn a)))) by omega]; exact x_field_d z_355 (by omega)), j_356, (by show sg.2.1 + 1 + sg.2.2.1 = _; omega)⟩)
      · skip
        have p_357 := p_59 (by omega)
        clear p_58 p_59
        refine to_isn (pc := 50) rw_33_50 (ls2 := [.ref p, .ref 1, .int r53, .null]) rfl rfl ?_
        refine to_in (pc := 51) rw_33_51 rfl ?_
        refine to_c (pc := 52) rw_33_52 (x := (-1 : Int32)) rfl rfl ?_
        refine b_cne_t (pc := 53) rw_33_53 (A := r53.toInt) (B := -1) rfl rfl (by omega) ?_
        refine to_an (pc := 62) rw_33_62 rfl ?_
        refine s_gR (pc := 63) rw_33_63 hG55 (by rcases hp with rfl | rfl <;> rfl) (v := (p + 2)) (by rcases hp with rfl | rfl <;> rfl) ?_
        refine to_an (pc := 66) rw_33_66 rfl ?_
        have c_358 : M60.2.1 p 2 = (M.2.1 p 2) := (F_n F54 (show ¬ (p < 0) by omega) (F_n F47 (show ¬ (p = 1 ∧ 6 ≤ 2 ∧ 2 ≤ 9) by omega) (W_n W40 (by omega) c_38)))
        refine tt_gI (pc := 67) rw_33_67 (g_o hG55 (by rcases hp with rfl | rfl <;> rfl)) (v := (M.2.1 p 2)) c_358 ?_
        refine to_in (pc := 70) rw_33_70 rfl ?_
        refine s_ias (pc := 71) rw_33_71 hG55 (by rcases hp with rfl | rfl <;> rfl) (n := 8) (by rcases hp with rfl | rfl <;> rfl) (A := (M.2.1 p 2).toInt) rfl (by omega) (by omega) (fun M360 W359 => ?_)
        have hG361 := g_w hG55 W359 (A := r53.toInt) rfl (lo := 0) (hi := 3) (by rcases hp with rfl | rfl <;> rfl) (by rcases hp with rfl | rfl <;> rfl) (by omega) (by omega)
        have F362 := FR.w F61 W359 (show (p + 2) = 1 ∧ 6 ≤ ((M.2.1 p 2).toInt).toNat ∧ ((M.2.1 p 2).toInt).toNat ≤ 11 ∨ (p + 2) = p ∧ 2 ≤ ((M.2.1 p 2).toInt).toNat ∨ p + 1 ≤ (p + 2) ∧ (p + 2) ≤ p + 5 by omega)
        refine to_an (pc := 72) rw_33_72 rfl ?_
        refine s_v (pc := 73) rw_33_73 (by omega) (ls0 := [.ref 1]) rfl (Nat.le_of_ble_eq_true rfl) (Nat.le_of_ble_eq_true rfl) rfl (to_rc rfl rfl rfl (g_o hG361 rfl)) rfl ?_
        have j_363 := (CS_f (fun a i z => W_n W359 (by omega) rfl) (CS_f (fun a i z => F_n F54 (show ¬ (a < 0) by omega) rfl) p_49))
        have c_364 : M360.2.1 1 9 = (M51.2.1 1 9) := (W_n W359 (by omega) (F_n F54 (show ¬ (1 < 0) by omega) rfl))
        have t_365 : (M360.2.1 1 9).toInt = (M51.2.1 1 9).toInt := congrArg Int32.toInt c_364
        refine E_83 hX (by omega) hG361 j_363 (by omega) (t := t) (nn := nn) (a := (x_ns t nn (x_ns t nn a))) (fun M370 hG367 F366 p_368 p_369 => ?_)
        have F371 := FR.c F362 F366 (fun a i z => show a = 1 ∧ 6 ≤ i ∧ i ≤ 11 ∨ a = p ∧ 2 ≤ i ∨ p + 1 ≤ a ∧ a ≤ p + 5 by have z : a = 1 ∧ 6 ≤ i ∧ i ≤ 9 := z; omega)
        refine to_in (pc := 76) rw_33_76 rfl ?_
        refine to_c (pc := 77) rw_33_77 (x := (1 : Int32)) rfl rfl ?_
        refine b_ceq_f (pc := 78) rw_33_78 (A := r53.toInt) (B := 1) rfl rfl (by omega) ?_
        refine to_in (pc := 81) rw_33_81 rfl ?_
        refine to_c (pc := 82) rw_33_82 (x := (2 : Int32)) rfl rfl ?_
        refine b_cne_f (pc := 83) rw_33_83 (A := r53.toInt) (B := 2) rfl rfl (by omega) ?_
        refine to_an (pc := 86) rw_33_86 rfl ?_
        refine to_an (pc := 87) rw_33_87 rfl ?_
        refine to_in (pc := 88) rw_33_88 rfl ?_
        refine to_c (pc := 89) rw_33_89 (x := (1 : Int32)) rfl rfl ?_
        refine b_cne_t (pc := 90) rw_33_90 (A := r53.toInt) (B := 1) rfl rfl (by omega) ?_
        refine to_c (pc := 97) rw_33_97 (x := (5 : Int32)) rfl rfl ?_
        refine s_v (pc := 98) rw_33_98 (by omega) (ls0 := [.ref p, .ref 1, .int (5 : Int32), .null, .null]) rfl (Nat.le_of_ble_eq_true rfl) (Nat.le_of_ble_eq_true rfl) rfl (to_rc rfl rfl rfl (g_o hG367 (by rcases hp with rfl | rfl <;> rfl))) rfl ?_
        refine to_an (pc := 0) rw_37_0 rfl ?_
        refine tt_gI (pc := 1) rw_37_1 (g_o hG367 rfl) (v := (M370.2.1 1 8)) rfl ?_
        refine to_isn (pc := 4) rw_37_4 (ls2 := [.ref p, .ref 1, .int (5 : Int32), .int (M370.2.1 1 8), .null]) rfl rfl ?_
        refine to_in (pc := 5) rw_37_5 rfl ?_
        refine to_in (pc := 6) rw_37_6 rfl ?_
        refine s_addo (pc := 7) rw_37_7 (A := (M370.2.1 1 8).toInt) (B := 5) rfl rfl (fun v372 e373 => ?_)
        refine to_c (pc := 8) rw_37_8 (x := (1 : Int32)) rfl rfl ?_
        refine s_subo (pc := 9) rw_37_9 (A := v372.toInt) (B := 1) rfl rfl (fun v374 e375 => ?_)
        refine to_is (pc := 10) rw_37_10 (ls2 := [.ref p, .ref 1, .int (5 : Int32), .int (M370.2.1 1 8), .int v374]) rfl rfl ?_
        refine to_an (pc := 12) rw_37_12 rfl ?_
        refine to_c (pc := 13) rw_37_13 (x := (0 : Int32)) rfl rfl ?_
        refine to_an (pc := 14) rw_37_14 rfl ?_
        have c_376 : M370.2.1 p 0 = (M.2.1 p 0) := (F_n F366 (show ¬ (p = 1 ∧ 6 ≤ 0 ∧ 0 ≤ 9) by omega) (W_n W359 (by omega) (F_n F54 (show ¬ (p < 0) by omega) (F_n F47 (show ¬ (p = 1 ∧ 6 ≤ 0 ∧ 0 ≤ 9) by omega) (W_n W40 (by omega) (F_n F23 (show ¬ (p = 1 ∧ (0 = 10 ∨ 0 = 11)) by omega) (F_n F15 (show ¬ (p = 1 ∧ 6 ≤ 0 ∧ 0 ≤ 9) by omega) rfl)))))))
        refine tt_gI (pc := 15) rw_37_15 (g_o hG367 (by rcases hp with rfl | rfl <;> rfl)) (v := (M.2.1 p 0)) c_376 ?_
        refine to_in (pc := 18) rw_37_18 rfl ?_
        refine s_sub (pc := 19) rw_37_19 (A := (M.2.1 p 0).toInt) (B := 5) rfl rfl (by omega) (fun v377 e378 => ?_)
        refine s_v (pc := 20) rw_37_20 (by omega) (ls0 := [.ref 1, .int (0 : Int32), .int v377]) rfl (Nat.le_of_ble_eq_true rfl) (Nat.le_of_ble_eq_true rfl) rfl (to_rc rfl rfl rfl (g_o hG367 rfl)) rfl ?_
        have k_379 : (0 : Int32).toInt = 0 := rfl
        refine E_88 hX (by omega) hG367 p_368 (by omega) (l := (0 : Int32)) (m := v377) (t := t) (nn := nn) (a := (x_ns t nn (x_ns t nn (x_ns t nn a)))) (fun r380 M387 hG382 F381 p_383 p_384 p_385 p_386 => ?_)
        have F388 := FR.c F371 F381 (fun a i z => show a = 1 ∧ 6 ≤ i ∧ i ≤ 11 ∨ a = p ∧ 2 ≤ i ∨ p + 1 ≤ a ∧ a ≤ p + 5 by have z : a = 1 ∧ (i = 10 ∨ i = 11) := z; omega)
        rcases (show r380.toInt = 0 ∨ r380.toInt = 1 by omega) with h389 | h389
        · skip
          have p_390 := p_386 (by omega)
          clear p_385 p_386
          have z_391 := x_val_b (t := t) (nn := nn) (a := (x_ns t nn (x_ns t nn (x_ns t nn a))))
          refine b_ieq_t (pc := 23) rw_37_23 (A := r380.toInt) rfl (by omega) ?_
          refine to_c (pc := 37) rw_37_37 (x := (0 : Int32)) rfl rfl ?_
          refine s_r1 (pc := 38) rw_37_38 (A := 0) rfl (by omega) ?_
          refine to_isn (pc := 101) rw_33_101 (ls2 := [.ref p, .ref 1, .int r53, .int (0 : Int32)]) rfl rfl ?_
          refine to_go (pc := 102) rw_33_102 ?_
          refine to_in (pc := 140) rw_33_140 rfl ?_
          refine b_ine_f (pc := 141) rw_33_141 (A := 0) rfl (by omega) ?_
          refine to_c (pc := 144) rw_33_144 (x := (0 : Int32)) rfl rfl ?_
          refine s_r1 (pc := 145) rw_33_145 (A := 0) rfl (by omega) ?_
          have j_392 := (CS_f (fun a i z => F_n F381 (show ¬ (a = 1 ∧ (i = 10 ∨ i = 11)) by omega) rfl) p_368)
          exact h (0 : Int32) M387 hG382 F388 (by omega) (by omega) j_392 (fun _ => x_field_n (fun h9 => by unfold x_fC at h9; omega)) (fun z => absurd z (by decide))
        · skip
          have p_393 := p_385 (by omega)
          clear p_385 p_386
          have c_394 : M387.2.1 1 8 = (M370.2.1 1 8) := (F_n F381 (show ¬ (1 = 1 ∧ (8 = 10 ∨ 8 = 11)) by omega) rfl)
          have z_395 := x_val_b (t := t) (nn := nn) (a := (x_ns t nn (x_ns t nn (x_ns t nn a)))) (by omega)
          refine b_ieq_f (pc := 23) rw_37_23 (A := r380.toInt) rfl (by omega) ?_
          refine to_an (pc := 26) rw_37_26 rfl ?_
          refine to_an (pc := 27) rw_37_27 rfl ?_
          refine to_in (pc := 28) rw_37_28 rfl ?_
          refine to_i (pc := 29) rw_37_29 rfl ?_
          refine s_v (pc := 31) rw_37_31 (by omega) (ls0 := [.ref p, .ref 1, .int (M370.2.1 1 8), .int v374]) rfl (Nat.le_of_ble_eq_true rfl) (Nat.le_of_ble_eq_true rfl) rfl (to_rc rfl rfl rfl (g_o hG382 (by rcases hp with rfl | rfl <;> rfl))) rfl ?_
          have j_396 := (CS_f (fun a i z => F_n F381 (show ¬ (a = 1 ∧ (i = 10 ∨ i = 11)) by omega) rfl) p_368)
          have c_397 : M387.2.1 1 9 = (M370.2.1 1 9) := (F_n F381 (show ¬ (1 = 1 ∧ (9 = 10 ∨ 9 = 11)) by omega) rfl)
          have t_398 : (M387.2.1 1 9).toInt = (M370.2.1 1 9).toInt := congrArg Int32.toInt c_397
          have j_399 := (PLc_f (fun a i z => F_n F381 (show ¬ (a = 1 ∧ (i = 10 ∨ i = 11)) by omega) rfl) (F_nl F381 (show ¬ (p = 1 ∧ (4 = 10 ∨ 4 = 11)) by omega) rfl) (PLc_f (fun a i z => F_n F366 (show ¬ (a = 1 ∧ 6 ≤ i ∧ i ≤ 9) by omega) rfl) (F_nl F366 (show ¬ (p = 1 ∧ 6 ≤ 4 ∧ 4 ≤ 9) by omega) rfl) (PLc_f (fun a i z => W_n W359 (by omega) rfl) (W_j W359 rfl) (PLc_f (fun a i z => F_n F54 (show ¬ (a < 0) by omega) rfl) (F_nl F54 (show ¬ (p < 0) by omega) rfl) (PLc_f (fun a i z => F_n F47 (show ¬ (a = 1 ∧ 6 ≤ i ∧ i ≤ 9) by omega) rfl) (F_nl F47 (show ¬ (p = 1 ∧ 6 ≤ 4 ∧ 4 ≤ 9) by omega) rfl) (PLc_f (fun a i z => W_n W40 (by omega) rfl) (W_j W40 rfl) (PLc_f (fun a i z => F_n F23 (show ¬ (a = 1 ∧ (i = 10 ∨ i = 11)) by omega) rfl) (F_nl F23 (show ¬ (p = 1 ∧ (4 = 10 ∨ 4 = 11)) by omega) rfl) j_21)))))))
          refine E_39 hX (by omega) hG382 hp j_396 (by omega) j_399 (by omega) (by omega) (by omega) (by omega) (by omega) (p := p) (f := (M370.2.1 1 8)) (l := v374) (t := t) (nn := nn) (a := (x_ns t nn (x_ns t nn (x_ns t nn a)))) (sg := sg) (fun r400 M407 hG402 F401 p_403 p_404 p_405 p_406 => ?_)
          have F408 := FR.c F388 F401 (fun a i z => show a = 1 ∧ 6 ≤ i ∧ i ≤ 11 ∨ a = p ∧ 2 ≤ i ∨ p + 1 ≤ a ∧ a ≤ p + 5 by have z : a = 1 ∧ (i = 10 ∨ i = 11) := z; omega)
          have z_409 := x_free_v (s := sg) (f := (M370.2.1 1 8).toInt) (l := v374.toInt) (f2 := (x_val t nn (x_ns t nn (x_ns t nn (x_ns t nn a))))) (l2 := ((x_val t nn (x_ns t nn (x_ns t nn (x_ns t nn a)))) + ((x_kx (x_val t nn (x_ns t nn (x_ns t nn a)))) - 1))) (by omega) (by omega)
          rcases (show r400.toInt = 0 ∨ r400.toInt = 1 by omega) with h410 | h410
          · skip
            have p_411 := p_406 (by omega)
            clear p_405 p_406
            refine b_ine_f (pc := 34) rw_37_34 (A := r400.toInt) rfl (by omega) ?_
            refine to_c (pc := 37) rw_37_37 (x := (0 : Int32)) rfl rfl ?_
            refine s_r1 (pc := 38) rw_37_38 (A := 0) rfl (by omega) ?_
            refine to_isn (pc := 101) rw_33_101 (ls2 := [.ref p, .ref 1, .int r53, .int (0 : Int32)]) rfl rfl ?_
            refine to_go (pc := 102) rw_33_102 ?_
            refine to_in (pc := 140) rw_33_140 rfl ?_
            refine b_ine_f (pc := 141) rw_33_141 (A := 0) rfl (by omega) ?_
            refine to_c (pc := 144) rw_33_144 (x := (0 : Int32)) rfl rfl ?_
            refine s_r1 (pc := 145) rw_33_145 (A := 0) rfl (by omega) ?_
            have j_412 := (CS_f (fun a i z => F_n F401 (show ¬ (a = 1 ∧ (i = 10 ∨ i = 11)) by omega) rfl) j_396)
            exact h (0 : Int32) M407 hG402 F408 (by omega) (by omega) j_412 (fun _ => x_field_n (fun h9 => by unfold x_fC at h9; omega)) (fun z => absurd z (by decide))
          · skip
            have p_413 := p_405 (by omega)
            clear p_405 p_406
            refine b_ine_t (pc := 34) rw_37_34 (A := r400.toInt) rfl (by omega) ?_
            refine to_an (pc := 39) rw_37_39 rfl ?_
            refine s_v (pc := 40) rw_37_40 (by omega) (ls0 := [.ref 1]) rfl (Nat.le_of_ble_eq_true rfl) (Nat.le_of_ble_eq_true rfl) rfl (to_rc rfl rfl rfl (g_o hG402 rfl)) rfl ?_
            have j_414 := (CS_f (fun a i z => F_n F401 (show ¬ (a = 1 ∧ (i = 10 ∨ i = 11)) by omega) rfl) j_396)
            have c_415 : M407.2.1 1 9 = (M370.2.1 1 9) := (F_n F401 (show ¬ (1 = 1 ∧ (9 = 10 ∨ 9 = 11)) by omega) c_397)
            have t_416 : (M407.2.1 1 9).toInt = (M370.2.1 1 9).toInt := congrArg Int32.toInt c_415
            refine E_83 hX (by omega) hG402 j_414 (by omega) (t := t) (nn := nn) (a := (x_ns t nn (x_ns t nn (x_ns t nn a)))) (fun M421 hG418 F417 p_419 p_420 => ?_)
            have F422 := FR.c F408 F417 (fun a i z => show a = 1 ∧ 6 ≤ i ∧ i ≤ 11 ∨ a = p ∧ 2 ≤ i ∨ p + 1 ≤ a ∧ a ≤ p + 5 by have z : a = 1 ∧ 6 ≤ i ∧ i ≤ 9 := z; omega)
            refine to_an (pc := 43) rw_37_43 rfl ?_
            refine to_in (pc := 44) rw_37_44 rfl ?_
            refine to_i (pc := 45) rw_37_45 rfl ?_
            refine to_c (pc := 47) rw_37_47 (x := (10 : Int32)) rfl rfl ?_
            refine s_v (pc := 49) rw_37_49 (by omega) (ls0 := [.ref p, .int (M370.2.1 1 8), .int v374, .int (10 : Int32)]) rfl (Nat.le_of_ble_eq_true rfl) (Nat.le_of_ble_eq_true rfl) rfl (to_rc rfl rfl rfl (g_o hG418 (by rcases hp with rfl | rfl <;> rfl))) rfl ?_
            refine to_an (pc := 0) rw_40_0 rfl ?_
            refine s_gR (pc := 1) rw_40_1 hG418 (by rcases hp with rfl | rfl <;> rfl) (v := (p + 3)) (by rcases hp with rfl | rfl <;> rfl) ?_
            refine to_an (pc := 4) rw_40_4 rfl ?_
            have c_423 : M421.2.1 p 2 = (M.2.1 p 2) := (F_n F417 (show ¬ (p = 1 ∧ 6 ≤ 2 ∧ 2 ≤ 9) by omega) (F_n F401 (show ¬ (p = 1 ∧ (2 = 10 ∨ 2 = 11)) by omega) (F_n F381 (show ¬ (p = 1 ∧ (2 = 10 ∨ 2 = 11)) by omega) (F_n F366 (show ¬ (p = 1 ∧ 6 ≤ 2 ∧ 2 ≤ 9) by omega) (W_n W359 (by omega) c_358)))))
            refine tt_gI (pc := 5) rw_40_5 (g_o hG418 (by rcases hp with rfl | rfl <;> rfl)) (v := (M.2.1 p 2)) c_423 ?_
            refine to_in (pc := 8) rw_40_8 rfl ?_
            refine s_ias (pc := 9) rw_40_9 hG418 (by rcases hp with rfl | rfl <;> rfl) (n := 8) (by rcases hp with rfl | rfl <;> rfl) (A := (M.2.1 p 2).toInt) rfl (by omega) (by omega) (fun M425 W424 => ?_)
            have hG426 := g_w hG418 W424 (A := (M370.2.1 1 8).toInt) rfl (lo := 0) (hi := 59) (by rcases hp with rfl | rfl <;> rfl) (by rcases hp with rfl | rfl <;> rfl) (by omega) (by omega)
            have F427 := FR.w F422 W424 (show (p + 3) = 1 ∧ 6 ≤ ((M.2.1 p 2).toInt).toNat ∧ ((M.2.1 p 2).toInt).toNat ≤ 11 ∨ (p + 3) = p ∧ 2 ≤ ((M.2.1 p 2).toInt).toNat ∨ p + 1 ≤ (p + 3) ∧ (p + 3) ≤ p + 5 by omega)
            refine to_an (pc := 10) rw_40_10 rfl ?_
            refine s_gR (pc := 11) rw_40_11 hG426 (by rcases hp with rfl | rfl <;> rfl) (v := (p + 4)) (by rcases hp with rfl | rfl <;> rfl) ?_
            refine to_an (pc := 14) rw_40_14 rfl ?_
            have c_428 : M425.2.1 p 2 = (M.2.1 p 2) := (W_n W424 (by omega) c_423)
            refine tt_gI (pc := 15) rw_40_15 (g_o hG426 (by rcases hp with rfl | rfl <;> rfl)) (v := (M.2.1 p 2)) c_428 ?_
            refine to_in (pc := 18) rw_40_18 rfl ?_
            refine s_ias (pc := 19) rw_40_19 hG426 (by rcases hp with rfl | rfl <;> rfl) (n := 8) (by rcases hp with rfl | rfl <;> rfl) (A := (M.2.1 p 2).toInt) rfl (by omega) (by omega) (fun M430 W429 => ?_)
            have hG431 := g_w hG426 W429 (A := v374.toInt) rfl (lo := 0) (hi := 63) (by rcases hp with rfl | rfl <;> rfl) (by rcases hp with rfl | rfl <;> rfl) (by omega) (by omega)
            have F432 := FR.w F427 W429 (show (p + 4) = 1 ∧ 6 ≤ ((M.2.1 p 2).toInt).toNat ∧ ((M.2.1 p 2).toInt).toNat ≤ 11 ∨ (p + 4) = p ∧ 2 ≤ ((M.2.1 p 2).toInt).toNat ∨ p + 1 ≤ (p + 4) ∧ (p + 4) ≤ p + 5 by omega)
            refine to_an (pc := 20) rw_40_20 rfl ?_
            refine s_gR (pc := 21) rw_40_21 hG431 (by rcases hp with rfl | rfl <;> rfl) (v := (p + 5)) (by rcases hp with rfl | rfl <;> rfl) ?_
            refine to_an (pc := 24) rw_40_24 rfl ?_
            have c_433 : M430.2.1 p 2 = (M.2.1 p 2) := (W_n W429 (by omega) c_428)
            refine tt_gI (pc := 25) rw_40_25 (g_o hG431 (by rcases hp with rfl | rfl <;> rfl)) (v := (M.2.1 p 2)) c_433 ?_
            refine to_in (pc := 28) rw_40_28 rfl ?_
            refine s_ias (pc := 29) rw_40_29 hG431 (by rcases hp with rfl | rfl <;> rfl) (n := 8) (by rcases hp with rfl | rfl <;> rfl) (A := (M.2.1 p 2).toInt) rfl (by omega) (by omega) (fun M435 W434 => ?_)
            have hG436 := g_w hG431 W434 (A := 10) rfl (lo := 0) (hi := 24) (by rcases hp with rfl | rfl <;> rfl) (by rcases hp with rfl | rfl <;> rfl) (by omega) (by omega)
            have F437 := FR.w F432 W434 (show (p + 5) = 1 ∧ 6 ≤ ((M.2.1 p 2).toInt).toNat ∧ ((M.2.1 p 2).toInt).toNat ≤ 11 ∨ (p + 5) = p ∧ 2 ≤ ((M.2.1 p 2).toInt).toNat ∨ p + 1 ≤ (p + 5) ∧ (p + 5) ≤ p + 5 by omega)
            refine to_rv (pc := 30) rw_40_30 ?_
            refine to_c (pc := 52) rw_37_52 (x := (1 : Int32)) rfl rfl ?_
            refine s_r1 (pc := 53) rw_37_53 (A := 1) rfl (by omega) ?_
            refine to_isn (pc := 101) rw_33_101 (ls2 := [.ref p, .ref 1, .int r53, .int (1 : Int32)]) rfl rfl ?_
            refine to_go (pc := 102) rw_33_102 ?_
            refine to_in (pc := 140) rw_33_140 rfl ?_
            refine b_ine_t (pc := 141) rw_33_141 (A := 1) rfl (by omega) ?_
            refine to_an (pc := 146) rw_33_146 rfl ?_
            refine to_dupr (pc := 147) rw_33_147 ?_
            refine tt_gJ (pc := 148) rw_33_148 (g_o hG436 (by rcases hp with rfl | rfl <;> rfl)) (v := (M.2.2.1 p 4)) (W_j W434 (W_j W429 (W_j W424 (F_nl F417 (show ¬ (p = 1 ∧ 6 ≤ 4 ∧ 4 ≤ 9) by omega) (F_nl F401 (show ¬ (p = 1 ∧ (4 = 10 ∨ 4 = 11)) by omega) (F_nl F381 (show ¬ (p = 1 ∧ (4 = 10 ∨ 4 = 11)) by omega) (F_nl F366 (show ¬ (p = 1 ∧ 6 ≤ 4 ∧ 4 ≤ 9) by omega) (W_j W359 (F_nl F54 (show ¬ (p < 0) by omega) (F_nl F47 (show ¬ (p = 1 ∧ 6 ≤ 4 ∧ 4 ≤ 9) by omega) (W_j W40 (F_nl F23 (show ¬ (p = 1 ∧ (4 = 10 ∨ 4 = 11)) by omega) (F_nl F15 (show ¬ (p = 1 ∧ 6 ≤ 4 ∧ 4 ≤ 9) by omega) rfl))))))))))))) ?_
            refine to_an (pc := 151) rw_33_151 rfl ?_
            refine s_gR (pc := 152) rw_33_152 hG436 (by rcases hp with rfl | rfl <;> rfl) (v := (p + 3)) (by rcases hp with rfl | rfl <;> rfl) ?_
            refine to_an (pc := 155) rw_33_155 rfl ?_
            have c_438 : M435.2.1 p 2 = (M.2.1 p 2) := (W_n W434 (by omega) c_433)
            refine tt_gI (pc := 156) rw_33_156 (g_o hG436 (by rcases hp with rfl | rfl <;> rfl)) (v := (M.2.1 p 2)) c_438 ?_
            refine s_ialk (pc := 159) rw_33_159 hG436 (by rcases hp with rfl | rfl <;> rfl) (n := 8) (by rcases hp with rfl | rfl <;> rfl) (by rcases hp with rfl | rfl <;> rfl) (A := (M.2.1 p 2).toInt) rfl (by omega) (by omega) (v := (M370.2.1 1 8)) (W_n W434 (by omega) (W_n W429 (by omega) (W_e W424))) ?_
            refine to_an (pc := 160) rw_33_160 rfl ?_
            refine s_gR (pc := 161) rw_33_161 hG436 (by rcases hp with rfl | rfl <;> rfl) (v := (p + 4)) (by rcases hp with rfl | rfl <;> rfl) ?_
            refine to_an (pc := 164) rw_33_164 rfl ?_
            refine tt_gI (pc := 165) rw_33_165 (g_o hG436 (by rcases hp with rfl | rfl <;> rfl)) (v := (M.2.1 p 2)) c_438 ?_
            refine s_ialk (pc := 168) rw_33_168 hG436 (by rcases hp with rfl | rfl <;> rfl) (n := 8) (by rcases hp with rfl | rfl <;> rfl) (by rcases hp with rfl | rfl <;> rfl) (A := (M.2.1 p 2).toInt) rfl (by omega) (by omega) (v := v374) (W_n W434 (by omega) (W_e W429)) ?_
            refine s_s (pc := 169) rw_33_169 (by omega) (ls0 := [.int (M370.2.1 1 8), .int v374]) rfl (Nat.le_of_ble_eq_true rfl) (Nat.le_of_ble_eq_true rfl) rfl (to_rcs rfl rfl) rfl ?_
            refine to_cl (pc := 0) rw_144_0 rfl (x := (1 : Int64)) rfl ?_
            refine to_in (pc := 1) rw_144_1 rfl ?_
            refine to_in (pc := 2) rw_144_2 rfl ?_
            refine s_sub (pc := 3) rw_144_3 (A := v374.toInt) (B := (M370.2.1 1 8).toInt) rfl rfl (by omega) (fun v443 e444 => ?_)
            refine to_c (pc := 4) rw_144_4 (x := (1 : Int32)) rfl rfl ?_
            refine s_add (pc := 5) rw_144_5 (A := v443.toInt) (B := 1) rfl rfl (by omega) (fun v445 e446 => ?_)
            refine to_2s (pc := 6) rw_144_6 (v := ((1 : Int64) <<< (v445.toInt64 &&& 63))) rfl ?_
            refine to_cl (pc := 7) rw_144_7 rfl (x := (1 : Int64)) rfl ?_
            refine to_2l (pc := 8) rw_144_8 (v := (((1 : Int64) <<< (v445.toInt64 &&& 63)) - (1 : Int64))) rfl ?_
            refine to_in (pc := 9) rw_144_9 rfl ?_
            refine to_2s (pc := 10) rw_144_10 (v := ((((1 : Int64) <<< (v445.toInt64 &&& 63)) - (1 : Int64)) <<< ((M370.2.1 1 8).toInt64 &&& 63))) rfl ?_
            refine to_rl (pc := 11) rw_144_11 ?_
            refine to_2l (pc := 172) rw_33_172 (v := ((M.2.2.1 p 4) ||| ((((1 : Int64) <<< (v445.toInt64 &&& 63)) - (1 : Int64)) <<< ((M370.2.1 1 8).toInt64 &&& 63)))) rfl ?_
            have j_447 := (PLc_f (fun a i z => W_n W434 (by omega) rfl) (W_j W434 rfl) (PLc_f (fun a i z => W_n W429 (by omega) rfl) (W_j W429 rfl) (PLc_f (fun a i z => W_n W424 (by omega) rfl) (W_j W424 rfl) (PLc_f (fun a i z => F_n F417 (show ¬ (a = 1 ∧ 6 ≤ i ∧ i ≤ 9) by omega) rfl) (F_nl F417 (show ¬ (p = 1 ∧ 6 ≤ 4 ∧ 4 ≤ 9) by omega) rfl) (PLc_f (fun a i z => F_n F401 (show ¬ (a = 1 ∧ (i = 10 ∨ i = 11)) by omega) rfl) (F_nl F401 (show ¬ (p = 1 ∧ (4 = 10 ∨ 4 = 11)) by omega) rfl) j_399)))))
            have r_448 : (M435.2.1 (p + 1) sg.2.1.toNat).toInt = (M19.2.1 1 8).toInt := by rw [show sg.2.1.toNat = ((M.2.1 p 2).toInt).toNat by omega, show M435.2.1 (p + 1) ((M.2.1 p 2).toInt).toNat = (M19.2.1 1 8) from (W_n W434 (by omega) (W_n W429 (by omega) (W_n W424 (by omega) (F_n F417 (show ¬ ((p + 1) = 1 ∧ 6 ≤ ((M.2.1 p 2).toInt).toNat ∧ ((M.2.1 p 2).toInt).toNat ≤ 9) by omega) (F_n F401 (show ¬ ((p + 1) = 1 ∧ (((M.2.1 p 2).toInt).toNat = 10 ∨ ((M.2.1 p 2).toInt).toNat = 11)) by omega) (F_n F381 (show ¬ ((p + 1) = 1 ∧ (((M.2.1 p 2).toInt).toNat = 10 ∨ ((M.2.1 p 2).toInt).toNat = 11)) by omega) (F_n F366 (show ¬ ((p + 1) = 1 ∧ 6 ≤ ((M.2.1 p 2).toInt).toNat ∧ ((M.2.1 p 2).toInt).toNat ≤ 9) by omega) (W_n W359 (by omega) (F_n F54 (show ¬ ((p + 1) < 0) by omega) (F_n F47 (show ¬ ((p + 1) = 1 ∧ 6 ≤ ((M.2.1 p 2).toInt).toNat ∧ ((M.2.1 p 2).toInt).toNat ≤ 9) by omega) (W_e W40)))))))))))]
            have r_449 : (M435.2.1 (p + 2) sg.2.1.toNat).toInt = r53.toInt := by rw [show sg.2.1.toNat = ((M.2.1 p 2).toInt).toNat by omega, show M435.2.1 (p + 2) ((M.2.1 p 2).toInt).toNat = r53 from (W_n W434 (by omega) (W_n W429 (by omega) (W_n W424 (by omega) (F_n F417 (show ¬ ((p + 2) = 1 ∧ 6 ≤ ((M.2.1 p 2).toInt).toNat ∧ ((M.2.1 p 2).toInt).toNat ≤ 9) by omega) (F_n F401 (show ¬ ((p + 2) = 1 ∧ (((M.2.1 p 2).toInt).toNat = 10 ∨ ((M.2.1 p 2).toInt).toNat = 11)) by omega) (F_n F381 (show ¬ ((p + 2) = 1 ∧ (((M.2.1 p 2).toInt).toNat = 10 ∨ ((M.2.1 p 2).toInt).toNat = 11)) by omega) (F_n F366 (show ¬ ((p + 2) = 1 ∧ 6 ≤ ((M.2.1 p 2).toInt).toNat ∧ ((M.2.1 p 2).toInt).toNat ≤ 9) by omega) (W_e W359))))))))]
            have r_450 : (M435.2.1 (p + 3) sg.2.1.toNat).toInt = (M370.2.1 1 8).toInt := by rw [show sg.2.1.toNat = ((M.2.1 p 2).toInt).toNat by omega, show M435.2.1 (p + 3) ((M.2.1 p 2).toInt).toNat = (M370.2.1 1 8) from (W_n W434 (by omega) (W_n W429 (by omega) (W_e W424)))]
            have r_451 : (M435.2.1 (p + 4) sg.2.1.toNat).toInt = v374.toInt := by rw [show sg.2.1.toNat = ((M.2.1 p 2).toInt).toNat by omega, show M435.2.1 (p + 4) ((M.2.1 p 2).toInt).toNat = v374 from (W_n W434 (by omega) (W_e W429))]
            have k_452 : (10 : Int32).toInt = 10 := rfl
            have r_453 : (M435.2.1 (p + 5) sg.2.1.toNat).toInt = (10 : Int32).toInt := by rw [show sg.2.1.toNat = ((M.2.1 p 2).toInt).toNat by omega, show M435.2.1 (p + 5) ((M.2.1 p 2).toInt).toNat = (10 : Int32) from (W_e W434)]
            refine s_pJ (pc := 173) rw_33_173 hG436 (by rcases hp with rfl | rfl <;> rfl) (fun M455 W454 => ?_)
            have hG456 := g_wl hG436 W454
            have F457 := FR.wl F437 W454 (show p = 1 ∧ 6 ≤ 4 ∧ 4 ≤ 11 ∨ p = p ∧ 2 ≤ 4 ∨ p + 1 ≤ p ∧ p ≤ p + 5 by omega)
            refine to_an (pc := 176) rw_33_176 rfl ?_
            refine to_dupr (pc := 177) rw_33_177 ?_
            have c_458 : M455.2.1 p 2 = (M.2.1 p 2) := (W_l W454 c_438)
            refine tt_gI (pc := 178) rw_33_178 (g_o hG456 (by rcases hp with rfl | rfl <;> rfl)) (v := (M.2.1 p 2)) c_458 ?_
            refine to_c (pc := 181) rw_33_181 (x := (1 : Int32)) rfl rfl ?_
            refine s_add (pc := 182) rw_33_182 (A := (M.2.1 p 2).toInt) (B := 1) rfl rfl (by omega) (fun v459 e460 => ?_)
            refine s_pI (pc := 183) rw_33_183 hG456 (by rcases hp with rfl | rfl <;> rfl) (fun M462 W461 => ?_)
            have hG463 := g_w hG456 W461 (A := v459.toInt) rfl (lo := 0) (hi := 8) (by rcases hp with rfl | rfl <;> rfl) (by rcases hp with rfl | rfl <;> rfl) (by omega) (by omega)
            have F464 := FR.w F457 W461 (show p = 1 ∧ 6 ≤ 2 ∧ 2 ≤ 11 ∨ p = p ∧ 2 ≤ 2 ∨ p + 1 ≤ p ∧ p ≤ p + 5 by omega)
            refine to_c (pc := 186) rw_33_186 (x := (1 : Int32)) rfl rfl ?_
            refine s_r1 (pc := 187) rw_33_187 (A := 1) rfl (by omega) ?_
            have k_465 : (1 : Int32).toInt = 1 := rfl
            have j_466 := (CS_f (fun a i z => W_n W461 (by omega) rfl) (CS_f (fun a i z => W_l W454 rfl) (CS_f (fun a i z => W_n W434 (by omega) rfl) (CS_f (fun a i z => W_n W429 (by omega) rfl) (CS_f (fun a i z => W_n W424 (by omega) rfl) p_419)))))
            have c_467 : M462.2.1 1 9 = (M421.2.1 1 9) := (W_n W461 (by omega) (W_l W454 (W_n W434 (by omega) (W_n W429 (by omega) (W_n W424 (by omega) rfl)))))
            have t_468 : (M462.2.1 1 9).toInt = (M421.2.1 1 9).toInt := congrArg Int32.toInt c_467
            have z_469 : x_fC t nn sg (x_ns t nn a) := by unfold x_fC; omega
            have j_470 := PLc_p (nm := (x_val t nn (x_ns t nn a))) (kd := ((x_kx (x_val t nn (x_ns t nn (x_ns t nn a)))) - 3)) (f := (x_val t nn (x_ns t nn (x_ns t nn (x_ns t nn a))))) (l := ((x_val t nn (x_ns t nn (x_ns t nn (x_ns t nn a)))) + ((x_kx (x_val t nn (x_ns t nn (x_ns t nn a)))) - 1))) (c := 10) j_447 W454 W461 (x_or_e q3 (by omega) (by omega)) (by omega) (by omega) (r_448.trans (by omega)) (r_449.trans (by omega)) (r_450.trans (by omega)) (r_451.trans (by omega)) (r_453.trans (by omega)) (by omega) (by omega) (by omega) (by omega)
            exact h (1 : Int32) M462 hG463 F464 (by omega) (by omega) j_466 (fun z => absurd z (by decide)) (fun _ => ⟨_, (by rw [show (M462.2.1 1 9).toInt = (x_ns t nn (x_ns t nn (x_ns t nn (x_ns t nn a)))) by omega]; exact x_field_d z_469 (by omega)), j_470, (by show sg.2.1 + 1 + sg.2.2.1 = _; omega)⟩)
      · skip
        have p_471 := p_59 (by omega)
        clear p_58 p_59
        refine to_isn (pc := 50) rw_33_50 (ls2 := [.ref p, .ref 1, .int r53, .null]) rfl rfl ?_
        refine to_in (pc := 51) rw_33_51 rfl ?_
        refine to_c (pc := 52) rw_33_52 (x := (-1 : Int32)) rfl rfl ?_
        refine b_cne_t (pc := 53) rw_33_53 (A := r53.toInt) (B := -1) rfl rfl (by omega) ?_
        refine to_an (pc := 62) rw_33_62 rfl ?_
        refine s_gR (pc := 63) rw_33_63 hG55 (by rcases hp with rfl | rfl <;> rfl) (v := (p + 2)) (by rcases hp with rfl | rfl <;> rfl) ?_
        refine to_an (pc := 66) rw_33_66 rfl ?_
        have c_472 : M60.2.1 p 2 = (M.2.1 p 2) := (F_n F54 (show ¬ (p < 0) by omega) (F_n F47 (show ¬ (p = 1 ∧ 6 ≤ 2 ∧ 2 ≤ 9) by omega) (W_n W40 (by omega) c_38)))
        refine tt_gI (pc := 67) rw_33_67 (g_o hG55 (by rcases hp with rfl | rfl <;> rfl)) (v := (M.2.1 p 2)) c_472 ?_
        refine to_in (pc := 70) rw_33_70 rfl ?_
        refine s_ias (pc := 71) rw_33_71 hG55 (by rcases hp with rfl | rfl <;> rfl) (n := 8) (by rcases hp with rfl | rfl <;> rfl) (A := (M.2.1 p 2).toInt) rfl (by omega) (by omega) (fun M474 W473 => ?_)
        have hG475 := g_w hG55 W473 (A := r53.toInt) rfl (lo := 0) (hi := 3) (by rcases hp with rfl | rfl <;> rfl) (by rcases hp with rfl | rfl <;> rfl) (by omega) (by omega)
        have F476 := FR.w F61 W473 (show (p + 2) = 1 ∧ 6 ≤ ((M.2.1 p 2).toInt).toNat ∧ ((M.2.1 p 2).toInt).toNat ≤ 11 ∨ (p + 2) = p ∧ 2 ≤ ((M.2.1 p 2).toInt).toNat ∨ p + 1 ≤ (p + 2) ∧ (p + 2) ≤ p + 5 by omega)
        refine to_an (pc := 72) rw_33_72 rfl ?_
        refine s_v (pc := 73) rw_33_73 (by omega) (ls0 := [.ref 1]) rfl (Nat.le_of_ble_eq_true rfl) (Nat.le_of_ble_eq_true rfl) rfl (to_rc rfl rfl rfl (g_o hG475 rfl)) rfl ?_
        have j_477 := (CS_f (fun a i z => W_n W473 (by omega) rfl) (CS_f (fun a i z => F_n F54 (show ¬ (a < 0) by omega) rfl) p_49))
        have c_478 : M474.2.1 1 9 = (M51.2.1 1 9) := (W_n W473 (by omega) (F_n F54 (show ¬ (1 < 0) by omega) rfl))
        have t_479 : (M474.2.1 1 9).toInt = (M51.2.1 1 9).toInt := congrArg Int32.toInt c_478
        refine E_83 hX (by omega) hG475 j_477 (by omega) (t := t) (nn := nn) (a := (x_ns t nn (x_ns t nn a))) (fun M484 hG481 F480 p_482 p_483 => ?_)
        have F485 := FR.c F476 F480 (fun a i z => show a = 1 ∧ 6 ≤ i ∧ i ≤ 11 ∨ a = p ∧ 2 ≤ i ∨ p + 1 ≤ a ∧ a ≤ p + 5 by have z : a = 1 ∧ 6 ≤ i ∧ i ≤ 9 := z; omega)
        refine to_in (pc := 76) rw_33_76 rfl ?_
        refine to_c (pc := 77) rw_33_77 (x := (1 : Int32)) rfl rfl ?_
        refine b_ceq_f (pc := 78) rw_33_78 (A := r53.toInt) (B := 1) rfl rfl (by omega) ?_
        refine to_in (pc := 81) rw_33_81 rfl ?_
        refine to_c (pc := 82) rw_33_82 (x := (2 : Int32)) rfl rfl ?_
        refine b_cne_t (pc := 83) rw_33_83 (A := r53.toInt) (B := 2) rfl rfl (by omega) ?_
        refine to_an (pc := 105) rw_33_105 rfl ?_
        refine to_an (pc := 106) rw_33_106 rfl ?_
        refine to_in (pc := 107) rw_33_107 rfl ?_
        refine b_ine_t (pc := 108) rw_33_108 (A := r53.toInt) rfl (by omega) ?_
        refine to_c (pc := 115) rw_33_115 (x := (1 : Int32)) rfl rfl ?_
        refine s_v (pc := 116) rw_33_116 (by omega) (ls0 := [.ref p, .ref 1, .int (1 : Int32), .null, .null, .null]) rfl (Nat.le_of_ble_eq_true rfl) (Nat.le_of_ble_eq_true rfl) rfl (to_rc rfl rfl rfl (g_o hG481 (by rcases hp with rfl | rfl <;> rfl))) rfl ?_
        refine to_an (pc := 0) rw_36_0 rfl ?_
        refine tt_gI (pc := 1) rw_36_1 (g_o hG481 rfl) (v := (M484.2.1 1 8)) rfl ?_
        refine to_isn (pc := 4) rw_36_4 (ls2 := [.ref p, .ref 1, .int (1 : Int32), .int (M484.2.1 1 8), .null, .null]) rfl rfl ?_
        refine to_an (pc := 5) rw_36_5 rfl ?_
        refine to_c (pc := 6) rw_36_6 (x := (0 : Int32)) rfl rfl ?_
        refine to_an (pc := 7) rw_36_7 rfl ?_
        have c_486 : M484.2.1 p 0 = (M.2.1 p 0) := (F_n F480 (show ¬ (p = 1 ∧ 6 ≤ 0 ∧ 0 ≤ 9) by omega) (W_n W473 (by omega) (F_n F54 (show ¬ (p < 0) by omega) (F_n F47 (show ¬ (p = 1 ∧ 6 ≤ 0 ∧ 0 ≤ 9) by omega) (W_n W40 (by omega) (F_n F23 (show ¬ (p = 1 ∧ (0 = 10 ∨ 0 = 11)) by omega) (F_n F15 (show ¬ (p = 1 ∧ 6 ≤ 0 ∧ 0 ≤ 9) by omega) rfl)))))))
        refine tt_gI (pc := 8) rw_36_8 (g_o hG481 (by rcases hp with rfl | rfl <;> rfl)) (v := (M.2.1 p 0)) c_486 ?_
        refine to_c (pc := 11) rw_36_11 (x := (1 : Int32)) rfl rfl ?_
        refine s_sub (pc := 12) rw_36_12 (A := (M.2.1 p 0).toInt) (B := 1) rfl rfl (by omega) (fun v487 e488 => ?_)
        refine s_v (pc := 13) rw_36_13 (by omega) (ls0 := [.ref 1, .int (0 : Int32), .int v487]) rfl (Nat.le_of_ble_eq_true rfl) (Nat.le_of_ble_eq_true rfl) rfl (to_rc rfl rfl rfl (g_o hG481 rfl)) rfl ?_
        have k_489 : (0 : Int32).toInt = 0 := rfl
        refine E_88 hX (by omega) hG481 p_482 (by omega) (l := (0 : Int32)) (m := v487) (t := t) (nn := nn) (a := (x_ns t nn (x_ns t nn (x_ns t nn a)))) (fun r490 M497 hG492 F491 p_493 p_494 p_495 p_496 => ?_)
        have F498 := FR.c F485 F491 (fun a i z => show a = 1 ∧ 6 ≤ i ∧ i ≤ 11 ∨ a = p ∧ 2 ≤ i ∨ p + 1 ≤ a ∧ a ≤ p + 5 by have z : a = 1 ∧ (i = 10 ∨ i = 11) := z; omega)
        rcases (show r490.toInt = 0 ∨ r490.toInt = 1 by omega) with h499 | h499
        · skip
          have p_500 := p_496 (by omega)
          clear p_495 p_496
          have z_501 := x_val_b (t := t) (nn := nn) (a := (x_ns t nn (x_ns t nn (x_ns t nn a))))
          refine b_ieq_t (pc := 16) rw_36_16 (A := r490.toInt) rfl (by omega) ?_
          refine to_c (pc := 29) rw_36_29 (x := (0 : Int32)) rfl rfl ?_
          refine s_r1 (pc := 30) rw_36_30 (A := 0) rfl (by omega) ?_
          refine b_ieq_t (pc := 119) rw_33_119 (A := 0) rfl (by omega) ?_
          refine to_c (pc := 138) rw_33_138 (x := (0 : Int32)) rfl rfl ?_
          refine to_isn (pc := 139) rw_33_139 (ls2 := [.ref p, .ref 1, .int r53, .int (0 : Int32)]) rfl rfl ?_
          refine to_in (pc := 140) rw_33_140 rfl ?_
          refine b_ine_f (pc := 141) rw_33_141 (A := 0) rfl (by omega) ?_
          refine to_c (pc := 144) rw_33_144 (x := (0 : Int32)) rfl rfl ?_
          refine s_r1 (pc := 145) rw_33_145 (A := 0) rfl (by omega) ?_
          have j_502 := (CS_f (fun a i z => F_n F491 (show ¬ (a = 1 ∧ (i = 10 ∨ i = 11)) by omega) rfl) p_482)
          exact h (0 : Int32) M497 hG492 F498 (by omega) (by omega) j_502 (fun _ => x_field_n (fun h9 => by unfold x_fC at h9; omega)) (fun z => absurd z (by decide))
        · skip
          have p_503 := p_495 (by omega)
          clear p_495 p_496
          have c_504 : M497.2.1 1 8 = (M484.2.1 1 8) := (F_n F491 (show ¬ (1 = 1 ∧ (8 = 10 ∨ 8 = 11)) by omega) rfl)
          have z_505 := x_val_b (t := t) (nn := nn) (a := (x_ns t nn (x_ns t nn (x_ns t nn a)))) (by omega)
          refine b_ieq_f (pc := 16) rw_36_16 (A := r490.toInt) rfl (by omega) ?_
          refine to_an (pc := 19) rw_36_19 rfl ?_
          refine to_an (pc := 20) rw_36_20 rfl ?_
          refine to_in (pc := 21) rw_36_21 rfl ?_
          refine to_in (pc := 22) rw_36_22 rfl ?_
          refine s_v (pc := 23) rw_36_23 (by omega) (ls0 := [.ref p, .ref 1, .int (M484.2.1 1 8), .int (M484.2.1 1 8)]) rfl (Nat.le_of_ble_eq_true rfl) (Nat.le_of_ble_eq_true rfl) rfl (to_rc rfl rfl rfl (g_o hG492 (by rcases hp with rfl | rfl <;> rfl))) rfl ?_
          have j_506 := (CS_f (fun a i z => F_n F491 (show ¬ (a = 1 ∧ (i = 10 ∨ i = 11)) by omega) rfl) p_482)
          have c_507 : M497.2.1 1 9 = (M484.2.1 1 9) := (F_n F491 (show ¬ (1 = 1 ∧ (9 = 10 ∨ 9 = 11)) by omega) rfl)
          have t_508 : (M497.2.1 1 9).toInt = (M484.2.1 1 9).toInt := congrArg Int32.toInt c_507
          have j_509 := (PLc_f (fun a i z => F_n F491 (show ¬ (a = 1 ∧ (i = 10 ∨ i = 11)) by omega) rfl) (F_nl F491 (show ¬ (p = 1 ∧ (4 = 10 ∨ 4 = 11)) by omega) rfl) (PLc_f (fun a i z => F_n F480 (show ¬ (a = 1 ∧ 6 ≤ i ∧ i ≤ 9) by omega) rfl) (F_nl F480 (show ¬ (p = 1 ∧ 6 ≤ 4 ∧ 4 ≤ 9) by omega) rfl) (PLc_f (fun a i z => W_n W473 (by omega) rfl) (W_j W473 rfl) (PLc_f (fun a i z => F_n F54 (show ¬ (a < 0) by omega) rfl) (F_nl F54 (show ¬ (p < 0) by omega) rfl) (PLc_f (fun a i z => F_n F47 (show ¬ (a = 1 ∧ 6 ≤ i ∧ i ≤ 9) by omega) rfl) (F_nl F47 (show ¬ (p = 1 ∧ 6 ≤ 4 ∧ 4 ≤ 9) by omega) rfl) (PLc_f (fun a i z => W_n W40 (by omega) rfl) (W_j W40 rfl) (PLc_f (fun a i z => F_n F23 (show ¬ (a = 1 ∧ (i = 10 ∨ i = 11)) by omega) rfl) (F_nl F23 (show ¬ (p = 1 ∧ (4 = 10 ∨ 4 = 11)) by omega) rfl) j_21)))))))
          refine E_39 hX (by omega) hG492 hp j_506 (by omega) j_509 (by omega) (by omega) (by omega) (by omega) (by omega) (p := p) (f := (M484.2.1 1 8)) (l := (M484.2.1 1 8)) (t := t) (nn := nn) (a := (x_ns t nn (x_ns t nn (x_ns t nn a)))) (sg := sg) (fun r510 M517 hG512 F511 p_513 p_514 p_515 p_516 => ?_)
          have F518 := FR.c F498 F511 (fun a i z => show a = 1 ∧ 6 ≤ i ∧ i ≤ 11 ∨ a = p ∧ 2 ≤ i ∨ p + 1 ≤ a ∧ a ≤ p + 5 by have z : a = 1 ∧ (i = 10 ∨ i = 11) := z; omega)
          have z_519 := x_free_v (s := sg) (f := (M484.2.1 1 8).toInt) (l := (M484.2.1 1 8).toInt) (f2 := (x_val t nn (x_ns t nn (x_ns t nn (x_ns t nn a))))) (l2 := (x_val t nn (x_ns t nn (x_ns t nn (x_ns t nn a))))) (by omega) (by omega)
          rcases (show r510.toInt = 0 ∨ r510.toInt = 1 by omega) with h520 | h520
          · skip
            have p_521 := p_516 (by omega)
            clear p_515 p_516
            refine b_ine_f (pc := 26) rw_36_26 (A := r510.toInt) rfl (by omega) ?_
            refine to_c (pc := 29) rw_36_29 (x := (0 : Int32)) rfl rfl ?_
            refine s_r1 (pc := 30) rw_36_30 (A := 0) rfl (by omega) ?_
            refine b_ieq_t (pc := 119) rw_33_119 (A := 0) rfl (by omega) ?_
            refine to_c (pc := 138) rw_33_138 (x := (0 : Int32)) rfl rfl ?_
            refine to_isn (pc := 139) rw_33_139 (ls2 := [.ref p, .ref 1, .int r53, .int (0 : Int32)]) rfl rfl ?_
            refine to_in (pc := 140) rw_33_140 rfl ?_
            refine b_ine_f (pc := 141) rw_33_141 (A := 0) rfl (by omega) ?_
            refine to_c (pc := 144) rw_33_144 (x := (0 : Int32)) rfl rfl ?_
            refine s_r1 (pc := 145) rw_33_145 (A := 0) rfl (by omega) ?_
            have j_522 := (CS_f (fun a i z => F_n F511 (show ¬ (a = 1 ∧ (i = 10 ∨ i = 11)) by omega) rfl) j_506)
            exact h (0 : Int32) M517 hG512 F518 (by omega) (by omega) j_522 (fun _ => x_field_n (fun h9 => by unfold x_fC at h9; omega)) (fun z => absurd z (by decide))
          · skip
            have p_523 := p_515 (by omega)
            clear p_515 p_516
            refine b_ine_t (pc := 26) rw_36_26 (A := r510.toInt) rfl (by omega) ?_
            refine to_an (pc := 31) rw_36_31 rfl ?_
            refine s_v (pc := 32) rw_36_32 (by omega) (ls0 := [.ref 1]) rfl (Nat.le_of_ble_eq_true rfl) (Nat.le_of_ble_eq_true rfl) rfl (to_rc rfl rfl rfl (g_o hG512 rfl)) rfl ?_
            have j_524 := (CS_f (fun a i z => F_n F511 (show ¬ (a = 1 ∧ (i = 10 ∨ i = 11)) by omega) rfl) j_506)
            have c_525 : M517.2.1 1 9 = (M484.2.1 1 9) := (F_n F511 (show ¬ (1 = 1 ∧ (9 = 10 ∨ 9 = 11)) by omega) c_507)
            have t_526 : (M517.2.1 1 9).toInt = (M484.2.1 1 9).toInt := congrArg Int32.toInt c_525
            refine E_83 hX (by omega) hG512 j_524 (by omega) (t := t) (nn := nn) (a := (x_ns t nn (x_ns t nn (x_ns t nn a)))) (fun M531 hG528 F527 p_529 p_530 => ?_)
            have F532 := FR.c F518 F527 (fun a i z => show a = 1 ∧ 6 ≤ i ∧ i ≤ 11 ∨ a = p ∧ 2 ≤ i ∨ p + 1 ≤ a ∧ a ≤ p + 5 by have z : a = 1 ∧ 6 ≤ i ∧ i ≤ 9 := z; omega)
            refine to_an (pc := 35) rw_36_35 rfl ?_
            refine tt_gI (pc := 36) rw_36_36 (g_o hG528 rfl) (v := (M531.2.1 1 8)) rfl ?_
            refine to_is (pc := 39) rw_36_39 (ls2 := [.ref p, .ref 1, .int (1 : Int32), .int (M484.2.1 1 8), .int (M531.2.1 1 8), .null]) rfl rfl ?_
            refine to_an (pc := 41) rw_36_41 rfl ?_
            have c_533 : M531.2.1 p 0 = (M.2.1 p 0) := (F_n F527 (show ¬ (p = 1 ∧ 6 ≤ 0 ∧ 0 ≤ 9) by omega) (F_n F511 (show ¬ (p = 1 ∧ (0 = 10 ∨ 0 = 11)) by omega) (F_n F491 (show ¬ (p = 1 ∧ (0 = 10 ∨ 0 = 11)) by omega) c_486)))
            refine tt_gI (pc := 42) rw_36_42 (g_o hG528 (by rcases hp with rfl | rfl <;> rfl)) (v := (M.2.1 p 0)) c_533 ?_
            refine to_c (pc := 45) rw_36_45 (x := (1 : Int32)) rfl rfl ?_
            refine s_sub (pc := 46) rw_36_46 (A := (M.2.1 p 0).toInt) (B := 1) rfl rfl (by omega) (fun v534 e535 => ?_)
            refine to_in (pc := 47) rw_36_47 rfl ?_
            refine to_c (pc := 48) rw_36_48 (x := (24 : Int32)) rfl rfl ?_
            refine s_add (pc := 50) rw_36_50 (A := (M484.2.1 1 8).toInt) (B := 24) rfl rfl (by omega) (fun v536 e537 => ?_)
            refine to_c (pc := 51) rw_36_51 (x := (1 : Int32)) rfl rfl ?_
            refine s_sub (pc := 52) rw_36_52 (A := v536.toInt) (B := 1) rfl rfl (by omega) (fun v538 e539 => ?_)
            refine s_min (pc := 53) rw_36_53 rfl (A := v534.toInt) (B := v538.toInt) rfl rfl (fun v540 _ _ _ => ?_)
            refine to_is (pc := 56) rw_36_56 (ls2 := [.ref p, .ref 1, .int (1 : Int32), .int (M484.2.1 1 8), .int (M531.2.1 1 8), .int v540]) rfl rfl ?_
            refine to_an (pc := 58) rw_36_58 rfl ?_
            refine to_in (pc := 59) rw_36_59 rfl ?_
            refine to_in (pc := 60) rw_36_60 rfl ?_
            refine s_add (pc := 61) rw_36_61 (A := (M484.2.1 1 8).toInt) (B := 1) rfl rfl (by omega) (fun v541 e542 => ?_)
            refine to_c (pc := 62) rw_36_62 (x := (1 : Int32)) rfl rfl ?_
            refine s_sub (pc := 63) rw_36_63 (A := v541.toInt) (B := 1) rfl rfl (by omega) (fun v543 e544 => ?_)
            refine to_i (pc := 64) rw_36_64 rfl ?_
            refine s_v (pc := 66) rw_36_66 (by omega) (ls0 := [.ref 1, .int v543, .int v540]) rfl (Nat.le_of_ble_eq_true rfl) (Nat.le_of_ble_eq_true rfl) rfl (to_rc rfl rfl rfl (g_o hG528 rfl)) rfl ?_
            refine E_88 hX (by omega) hG528 p_529 (by omega) (l := v543) (m := v540) (t := t) (nn := nn) (a := (x_ns t nn (x_ns t nn (x_ns t nn (x_ns t nn a))))) (fun r545 M552 hG547 F546 p_548 p_549 p_550 p_551 => ?_)
            have F553 := FR.c F532 F546 (fun a i z => show a = 1 ∧ 6 ≤ i ∧ i ≤ 11 ∨ a = p ∧ 2 ≤ i ∨ p + 1 ≤ a ∧ a ≤ p + 5 by have z : a = 1 ∧ (i = 10 ∨ i = 11) := z; omega)
            rcases (show r545.toInt = 0 ∨ r545.toInt = 1 by omega) with h554 | h554
            · skip
              have p_555 := p_551 (by omega)
              clear p_550 p_551
              have z_556 := x_val_b (t := t) (nn := nn) (a := (x_ns t nn (x_ns t nn (x_ns t nn (x_ns t nn a)))))
              refine b_ieq_t (pc := 69) rw_36_69 (A := r545.toInt) rfl (by omega) ?_
              refine to_c (pc := 83) rw_36_83 (x := (0 : Int32)) rfl rfl ?_
              refine s_r1 (pc := 84) rw_36_84 (A := 0) rfl (by omega) ?_
              refine b_ieq_t (pc := 119) rw_33_119 (A := 0) rfl (by omega) ?_
              refine to_c (pc := 138) rw_33_138 (x := (0 : Int32)) rfl rfl ?_
              refine to_isn (pc := 139) rw_33_139 (ls2 := [.ref p, .ref 1, .int r53, .int (0 : Int32)]) rfl rfl ?_
              refine to_in (pc := 140) rw_33_140 rfl ?_
              refine b_ine_f (pc := 141) rw_33_141 (A := 0) rfl (by omega) ?_
              refine to_c (pc := 144) rw_33_144 (x := (0 : Int32)) rfl rfl ?_
              refine s_r1 (pc := 145) rw_33_145 (A := 0) rfl (by omega) ?_
              have j_557 := (CS_f (fun a i z => F_n F546 (show ¬ (a = 1 ∧ (i = 10 ∨ i = 11)) by omega) rfl) p_529)
              exact h (0 : Int32) M552 hG547 F553 (by omega) (by omega) j_557 (fun _ => x_field_n (fun h9 => by unfold x_fC at h9; omega)) (fun z => absurd z (by decide))
            · skip
              have p_558 := p_550 (by omega)
              clear p_550 p_551
              have c_559 : M552.2.1 1 8 = (M531.2.1 1 8) := (F_n F546 (show ¬ (1 = 1 ∧ (8 = 10 ∨ 8 = 11)) by omega) rfl)
              have z_560 := x_val_b (t := t) (nn := nn) (a := (x_ns t nn (x_ns t nn (x_ns t nn (x_ns t nn a))))) (by omega)
              refine b_ieq_f (pc := 69) rw_36_69 (A := r545.toInt) rfl (by omega) ?_
              refine to_an (pc := 72) rw_36_72 rfl ?_
              refine to_an (pc := 73) rw_36_73 rfl ?_
              refine to_in (pc := 74) rw_36_74 rfl ?_
              refine to_i (pc := 75) rw_36_75 rfl ?_
              refine s_v (pc := 77) rw_36_77 (by omega) (ls0 := [.ref p, .ref 1, .int (M484.2.1 1 8), .int (M531.2.1 1 8)]) rfl (Nat.le_of_ble_eq_true rfl) (Nat.le_of_ble_eq_true rfl) rfl (to_rc rfl rfl rfl (g_o hG547 (by rcases hp with rfl | rfl <;> rfl))) rfl ?_
              have j_561 := (CS_f (fun a i z => F_n F546 (show ¬ (a = 1 ∧ (i = 10 ∨ i = 11)) by omega) rfl) p_529)
              have c_562 : M552.2.1 1 9 = (M531.2.1 1 9) := (F_n F546 (show ¬ (1 = 1 ∧ (9 = 10 ∨ 9 = 11)) by omega) rfl)
              have t_563 : (M552.2.1 1 9).toInt = (M531.2.1 1 9).toInt := congrArg Int32.toInt c_562
              have j_564 := (PLc_f (fun a i z => F_n F546 (show ¬ (a = 1 ∧ (i = 10 ∨ i = 11)) by omega) rfl) (F_nl F546 (show ¬ (p = 1 ∧ (4 = 10 ∨ 4 = 11)) by omega) rfl) (PLc_f (fun a i z => F_n F527 (show ¬ (a = 1 ∧ 6 ≤ i ∧ i ≤ 9) by omega) rfl) (F_nl F527 (show ¬ (p = 1 ∧ 6 ≤ 4 ∧ 4 ≤ 9) by omega) rfl) (PLc_f (fun a i z => F_n F511 (show ¬ (a = 1 ∧ (i = 10 ∨ i = 11)) by omega) rfl) (F_nl F511 (show ¬ (p = 1 ∧ (4 = 10 ∨ 4 = 11)) by omega) rfl) j_509)))
              refine E_39 hX (by omega) hG547 hp j_561 (by omega) j_564 (by omega) (by omega) (by omega) (by omega) (by omega) (p := p) (f := (M484.2.1 1 8)) (l := (M531.2.1 1 8)) (t := t) (nn := nn) (a := (x_ns t nn (x_ns t nn (x_ns t nn (x_ns t nn a))))) (sg := sg) (fun r565 M572 hG567 F566 p_568 p_569 p_570 p_571 => ?_)
              have F573 := FR.c F553 F566 (fun a i z => show a = 1 ∧ 6 ≤ i ∧ i ≤ 11 ∨ a = p ∧ 2 ≤ i ∨ p + 1 ≤ a ∧ a ≤ p + 5 by have z : a = 1 ∧ (i = 10 ∨ i = 11) := z; omega)
              have z_574 := x_free_v (s := sg) (f := (M484.2.1 1 8).toInt) (l := (M531.2.1 1 8).toInt) (f2 := (x_val t nn (x_ns t nn (x_ns t nn (x_ns t nn a))))) (l2 := (x_val t nn (x_ns t nn (x_ns t nn (x_ns t nn (x_ns t nn a)))))) (by omega) (by omega)
              rcases (show r565.toInt = 0 ∨ r565.toInt = 1 by omega) with h575 | h575
              · skip
                have p_576 := p_571 (by omega)
                clear p_570 p_571
                refine b_ine_f (pc := 80) rw_36_80 (A := r565.toInt) rfl (by omega) ?_
                refine to_c (pc := 83) rw_36_83 (x := (0 : Int32)) rfl rfl ?_
                refine s_r1 (pc := 84) rw_36_84 (A := 0) rfl (by omega) ?_
                refine b_ieq_t (pc := 119) rw_33_119 (A := 0) rfl (by omega) ?_
                refine to_c (pc := 138) rw_33_138 (x := (0 : Int32)) rfl rfl ?_
                refine to_isn (pc := 139) rw_33_139 (ls2 := [.ref p, .ref 1, .int r53, .int (0 : Int32)]) rfl rfl ?_
                refine to_in (pc := 140) rw_33_140 rfl ?_
                refine b_ine_f (pc := 141) rw_33_141 (A := 0) rfl (by omega) ?_
                refine to_c (pc := 144) rw_33_144 (x := (0 : Int32)) rfl rfl ?_
                refine s_r1 (pc := 145) rw_33_145 (A := 0) rfl (by omega) ?_
                have j_577 := (CS_f (fun a i z => F_n F566 (show ¬ (a = 1 ∧ (i = 10 ∨ i = 11)) by omega) rfl) j_561)
                exact h (0 : Int32) M572 hG567 F573 (by omega) (by omega) j_577 (fun _ => x_field_n (fun h9 => by unfold x_fC at h9; omega)) (fun z => absurd z (by decide))
              · skip
                have p_578 := p_570 (by omega)
                clear p_570 p_571
                refine b_ine_t (pc := 80) rw_36_80 (A := r565.toInt) rfl (by omega) ?_
                refine to_an (pc := 85) rw_36_85 rfl ?_
                refine s_v (pc := 86) rw_36_86 (by omega) (ls0 := [.ref 1]) rfl (Nat.le_of_ble_eq_true rfl) (Nat.le_of_ble_eq_true rfl) rfl (to_rc rfl rfl rfl (g_o hG567 rfl)) rfl ?_
                have j_579 := (CS_f (fun a i z => F_n F566 (show ¬ (a = 1 ∧ (i = 10 ∨ i = 11)) by omega) rfl) j_561)
                have c_580 : M572.2.1 1 9 = (M531.2.1 1 9) := (F_n F566 (show ¬ (1 = 1 ∧ (9 = 10 ∨ 9 = 11)) by omega) c_562)
                have t_581 : (M572.2.1 1 9).toInt = (M531.2.1 1 9).toInt := congrArg Int32.toInt c_580
                refine E_83 hX (by omega) hG567 j_579 (by omega) (t := t) (nn := nn) (a := (x_ns t nn (x_ns t nn (x_ns t nn (x_ns t nn a))))) (fun M586 hG583 F582 p_584 p_585 => ?_)
                have F587 := FR.c F573 F582 (fun a i z => show a = 1 ∧ 6 ≤ i ∧ i ≤ 11 ∨ a = p ∧ 2 ≤ i ∨ p + 1 ≤ a ∧ a ≤ p + 5 by have z : a = 1 ∧ 6 ≤ i ∧ i ≤ 9 := z; omega)
                refine to_an (pc := 89) rw_36_89 rfl ?_
                refine to_in (pc := 90) rw_36_90 rfl ?_
                refine to_i (pc := 91) rw_36_91 rfl ?_
                refine to_i (pc := 93) rw_36_93 rfl ?_
                refine to_in (pc := 95) rw_36_95 rfl ?_
                refine s_sub (pc := 96) rw_36_96 (A := (M531.2.1 1 8).toInt) (B := (M484.2.1 1 8).toInt) rfl rfl (by omega) (fun v588 e589 => ?_)
                refine to_c (pc := 97) rw_36_97 (x := (1 : Int32)) rfl rfl ?_
                refine s_add (pc := 98) rw_36_98 (A := v588.toInt) (B := 1) rfl rfl (by omega) (fun v590 e591 => ?_)
                refine s_v (pc := 99) rw_36_99 (by omega) (ls0 := [.ref p, .int (M484.2.1 1 8), .int (M531.2.1 1 8), .int v590]) rfl (Nat.le_of_ble_eq_true rfl) (Nat.le_of_ble_eq_true rfl) rfl (to_rc rfl rfl rfl (g_o hG583 (by rcases hp with rfl | rfl <;> rfl))) rfl ?_
                refine to_an (pc := 0) rw_40_0 rfl ?_
                refine s_gR (pc := 1) rw_40_1 hG583 (by rcases hp with rfl | rfl <;> rfl) (v := (p + 3)) (by rcases hp with rfl | rfl <;> rfl) ?_
                refine to_an (pc := 4) rw_40_4 rfl ?_
                have c_592 : M586.2.1 p 2 = (M.2.1 p 2) := (F_n F582 (show ¬ (p = 1 ∧ 6 ≤ 2 ∧ 2 ≤ 9) by omega) (F_n F566 (show ¬ (p = 1 ∧ (2 = 10 ∨ 2 = 11)) by omega) (F_n F546 (show ¬ (p = 1 ∧ (2 = 10 ∨ 2 = 11)) by omega) (F_n F527 (show ¬ (p = 1 ∧ 6 ≤ 2 ∧ 2 ≤ 9) by omega) (F_n F511 (show ¬ (p = 1 ∧ (2 = 10 ∨ 2 = 11)) by omega) (F_n F491 (show ¬ (p = 1 ∧ (2 = 10 ∨ 2 = 11)) by omega) (F_n F480 (show ¬ (p = 1 ∧ 6 ≤ 2 ∧ 2 ≤ 9) by omega) (W_n W473 (by omega) c_472))))))))
                refine tt_gI (pc := 5) rw_40_5 (g_o hG583 (by rcases hp with rfl | rfl <;> rfl)) (v := (M.2.1 p 2)) c_592 ?_
                refine to_in (pc := 8) rw_40_8 rfl ?_
                refine s_ias (pc := 9) rw_40_9 hG583 (by rcases hp with rfl | rfl <;> rfl) (n := 8) (by rcases hp with rfl | rfl <;> rfl) (A := (M.2.1 p 2).toInt) rfl (by omega) (by omega) (fun M594 W593 => ?_)
                have hG595 := g_w hG583 W593 (A := (M484.2.1 1 8).toInt) rfl (lo := 0) (hi := 59) (by rcases hp with rfl | rfl <;> rfl) (by rcases hp with rfl | rfl <;> rfl) (by omega) (by omega)
                have F596 := FR.w F587 W593 (show (p + 3) = 1 ∧ 6 ≤ ((M.2.1 p 2).toInt).toNat ∧ ((M.2.1 p 2).toInt).toNat ≤ 11 ∨ (p + 3) = p ∧ 2 ≤ ((M.2.1 p 2).toInt).toNat ∨ p + 1 ≤ (p + 3) ∧ (p + 3) ≤ p + 5 by omega)
                refine to_an (pc := 10) rw_40_10 rfl ?_
                refine s_gR (pc := 11) rw_40_11 hG595 (by rcases hp with rfl | rfl <;> rfl) (v := (p + 4)) (by rcases hp with rfl | rfl <;> rfl) ?_
                refine to_an (pc := 14) rw_40_14 rfl ?_
                have c_597 : M594.2.1 p 2 = (M.2.1 p 2) := (W_n W593 (by omega) c_592)
                refine tt_gI (pc := 15) rw_40_15 (g_o hG595 (by rcases hp with rfl | rfl <;> rfl)) (v := (M.2.1 p 2)) c_597 ?_
                refine to_in (pc := 18) rw_40_18 rfl ?_
                refine s_ias (pc := 19) rw_40_19 hG595 (by rcases hp with rfl | rfl <;> rfl) (n := 8) (by rcases hp with rfl | rfl <;> rfl) (A := (M.2.1 p 2).toInt) rfl (by omega) (by omega) (fun M599 W598 => ?_)
                have hG600 := g_w hG595 W598 (A := (M531.2.1 1 8).toInt) rfl (lo := 0) (hi := 63) (by rcases hp with rfl | rfl <;> rfl) (by rcases hp with rfl | rfl <;> rfl) (by omega) (by omega)
                have F601 := FR.w F596 W598 (show (p + 4) = 1 ∧ 6 ≤ ((M.2.1 p 2).toInt).toNat ∧ ((M.2.1 p 2).toInt).toNat ≤ 11 ∨ (p + 4) = p ∧ 2 ≤ ((M.2.1 p 2).toInt).toNat ∨ p + 1 ≤ (p + 4) ∧ (p + 4) ≤ p + 5 by omega)
                refine to_an (pc := 20) rw_40_20 rfl ?_
                refine s_gR (pc := 21) rw_40_21 hG600 (by rcases hp with rfl | rfl <;> rfl) (v := (p + 5)) (by rcases hp with rfl | rfl <;> rfl) ?_
                refine to_an (pc := 24) rw_40_24 rfl ?_
                have c_602 : M599.2.1 p 2 = (M.2.1 p 2) := (W_n W598 (by omega) c_597)
                refine tt_gI (pc := 25) rw_40_25 (g_o hG600 (by rcases hp with rfl | rfl <;> rfl)) (v := (M.2.1 p 2)) c_602 ?_
                refine to_in (pc := 28) rw_40_28 rfl ?_
                refine s_ias (pc := 29) rw_40_29 hG600 (by rcases hp with rfl | rfl <;> rfl) (n := 8) (by rcases hp with rfl | rfl <;> rfl) (A := (M.2.1 p 2).toInt) rfl (by omega) (by omega) (fun M604 W603 => ?_)
                have hG605 := g_w hG600 W603 (A := v590.toInt) rfl (lo := 0) (hi := 24) (by rcases hp with rfl | rfl <;> rfl) (by rcases hp with rfl | rfl <;> rfl) (by omega) (by omega)
                have F606 := FR.w F601 W603 (show (p + 5) = 1 ∧ 6 ≤ ((M.2.1 p 2).toInt).toNat ∧ ((M.2.1 p 2).toInt).toNat ≤ 11 ∨ (p + 5) = p ∧ 2 ≤ ((M.2.1 p 2).toInt).toNat ∨ p + 1 ≤ (p + 5) ∧ (p + 5) ≤ p + 5 by omega)
                refine to_rv (pc := 30) rw_40_30 ?_
                refine to_c (pc := 102) rw_36_102 (x := (1 : Int32)) rfl rfl ?_
                refine s_r1 (pc := 103) rw_36_103 (A := 1) rfl (by omega) ?_
                refine b_ieq_f (pc := 119) rw_33_119 (A := 1) rfl (by omega) ?_
                refine to_in (pc := 122) rw_33_122 rfl ?_
                refine b_ieq_f (pc := 123) rw_33_123 (A := r53.toInt) rfl (by omega) ?_
                refine to_an (pc := 126) rw_33_126 rfl ?_
                refine to_an (pc := 127) rw_33_127 rfl ?_
                refine s_v (pc := 128) rw_33_128 (by omega) (ls0 := [.ref p, .ref 1]) rfl (Nat.le_of_ble_eq_true rfl) (Nat.le_of_ble_eq_true rfl) rfl (to_rc rfl rfl rfl (g_o hG605 (by rcases hp with rfl | rfl <;> rfl))) rfl ?_
                refine to_an (pc := 0) rw_38_0 rfl ?_
                refine to_c (pc := 1) rw_38_1 (x := (1 : Int32)) rfl rfl ?_
                refine to_c (pc := 2) rw_38_2 (x := (4 : Int32)) rfl rfl ?_
                refine to_an (pc := 3) rw_38_3 rfl ?_
                refine to_an (pc := 4) rw_38_4 rfl ?_
                have c_607 : M604.2.1 p 2 = (M.2.1 p 2) := (W_n W603 (by omega) c_602)
                refine tt_gI (pc := 5) rw_38_5 (g_o hG605 (by rcases hp with rfl | rfl <;> rfl)) (v := (M.2.1 p 2)) c_607 ?_
                refine s_v (pc := 8) rw_38_8 (by omega) (ls0 := [.ref p, .int (M.2.1 p 2)]) rfl (Nat.le_of_ble_eq_true rfl) (Nat.le_of_ble_eq_true rfl) rfl (to_rc rfl rfl rfl (g_o hG605 (by rcases hp with rfl | rfl <;> rfl))) rfl ?_
                refine to_an (pc := 0) rw_47_0 rfl ?_
                refine s_gR (pc := 1) rw_47_1 hG605 (by rcases hp with rfl | rfl <;> rfl) (v := (p + 4)) (by rcases hp with rfl | rfl <;> rfl) ?_
                refine to_in (pc := 4) rw_47_4 rfl ?_
                refine s_ialk (pc := 5) rw_47_5 hG605 (by rcases hp with rfl | rfl <;> rfl) (n := 8) (by rcases hp with rfl | rfl <;> rfl) (by rcases hp with rfl | rfl <;> rfl) (A := (M.2.1 p 2).toInt) rfl (by omega) (by omega) (v := (M531.2.1 1 8)) (W_n W603 (by omega) (W_e W598)) ?_
                refine to_an (pc := 6) rw_47_6 rfl ?_
                refine s_gR (pc := 7) rw_47_7 hG605 (by rcases hp with rfl | rfl <;> rfl) (v := (p + 3)) (by rcases hp with rfl | rfl <;> rfl) ?_
                refine to_in (pc := 10) rw_47_10 rfl ?_
                refine s_ialk (pc := 11) rw_47_11 hG605 (by rcases hp with rfl | rfl <;> rfl) (n := 8) (by rcases hp with rfl | rfl <;> rfl) (by rcases hp with rfl | rfl <;> rfl) (A := (M.2.1 p 2).toInt) rfl (by omega) (by omega) (v := (M484.2.1 1 8)) (W_n W603 (by omega) (W_n W598 (by omega) (W_e W593))) ?_
                refine s_sub (pc := 12) rw_47_12 (A := (M531.2.1 1 8).toInt) (B := (M484.2.1 1 8).toInt) rfl rfl (by omega) (fun v612 e613 => ?_)
                refine to_c (pc := 13) rw_47_13 (x := (1 : Int32)) rfl rfl ?_
                refine s_add (pc := 14) rw_47_14 (A := v612.toInt) (B := 1) rfl rfl (by omega) (fun v614 e615 => ?_)
                refine to_r0 (pc := 15) rw_47_15 ?_
                refine s_min (pc := 11) rw_38_11 rfl (A := 4) (B := v614.toInt) rfl rfl (fun v616 _ _ _ => ?_)
                refine s_v (pc := 14) rw_38_14 (by omega) (ls0 := [.ref 1, .int (1 : Int32), .int v616]) rfl (Nat.le_of_ble_eq_true rfl) (Nat.le_of_ble_eq_true rfl) rfl (to_rc rfl rfl rfl (g_o hG605 rfl)) rfl ?_
                have k_617 : (1 : Int32).toInt = 1 := rfl
                have c_618 : M604.2.1 1 8 = (M586.2.1 1 8) := (W_n W603 (by omega) (W_n W598 (by omega) (W_n W593 (by omega) rfl)))
                have t_619 : (M604.2.1 1 8).toInt = (M586.2.1 1 8).toInt := congrArg Int32.toInt c_618
                have j_620 := (CS_f (fun a i z => W_n W603 (by omega) rfl) (CS_f (fun a i z => W_n W598 (by omega) rfl) (CS_f (fun a i z => W_n W593 (by omega) rfl) p_584)))
                have c_621 : M604.2.1 1 9 = (M586.2.1 1 9) := (W_n W603 (by omega) (W_n W598 (by omega) (W_n W593 (by omega) rfl)))
                have t_622 : (M604.2.1 1 9).toInt = (M586.2.1 1 9).toInt := congrArg Int32.toInt c_621
                refine E_88 hX (by omega) hG605 j_620 (by omega) (l := (1 : Int32)) (m := v616) (t := t) (nn := nn) (a := (x_ns t nn (x_ns t nn (x_ns t nn (x_ns t nn (x_ns t nn a)))))) (fun r623 M630 hG625 F624 p_626 p_627 p_628 p_629 => ?_)
                have F631 := FR.c F606 F624 (fun a i z => show a = 1 ∧ 6 ≤ i ∧ i ≤ 11 ∨ a = p ∧ 2 ≤ i ∨ p + 1 ≤ a ∧ a ≤ p + 5 by have z : a = 1 ∧ (i = 10 ∨ i = 11) := z; omega)
                rcases (show r623.toInt = 0 ∨ r623.toInt = 1 by omega) with h632 | h632
                · skip
                  have p_633 := p_629 (by omega)
                  clear p_628 p_629
                  have z_634 := x_val_b (t := t) (nn := nn) (a := (x_ns t nn (x_ns t nn (x_ns t nn (x_ns t nn (x_ns t nn a))))))
                  refine b_ine_f (pc := 17) rw_38_17 (A := r623.toInt) rfl (by omega) ?_
                  refine to_c (pc := 20) rw_38_20 (x := (0 : Int32)) rfl rfl ?_
                  refine s_r1 (pc := 21) rw_38_21 (A := 0) rfl (by omega) ?_
                  refine b_ieq_t (pc := 131) rw_33_131 (A := 0) rfl (by omega) ?_
                  refine to_c (pc := 138) rw_33_138 (x := (0 : Int32)) rfl rfl ?_
                  refine to_isn (pc := 139) rw_33_139 (ls2 := [.ref p, .ref 1, .int r53, .int (0 : Int32)]) rfl rfl ?_
                  refine to_in (pc := 140) rw_33_140 rfl ?_
                  refine b_ine_f (pc := 141) rw_33_141 (A := 0) rfl (by omega) ?_
                  refine to_c (pc := 144) rw_33_144 (x := (0 : Int32)) rfl rfl ?_
                  refine s_r1 (pc := 145) rw_33_145 (A := 0) rfl (by omega) ?_
                  have j_635 := (CS_f (fun a i z => F_n F624 (show ¬ (a = 1 ∧ (i = 10 ∨ i = 11)) by omega) rfl) j_620)
                  exact h (0 : Int32) M630 hG625 F631 (by omega) (by omega) j_635 (fun _ => x_field_n (fun h9 => by unfold x_fC at h9; omega)) (fun z => absurd z (by decide))
                · skip
                  have p_636 := p_628 (by omega)
                  clear p_628 p_629
                  have c_637 : M630.2.1 1 8 = (M586.2.1 1 8) := (F_n F624 (show ¬ (1 = 1 ∧ (8 = 10 ∨ 8 = 11)) by omega) c_618)
                  have z_638 := x_val_b (t := t) (nn := nn) (a := (x_ns t nn (x_ns t nn (x_ns t nn (x_ns t nn (x_ns t nn a)))))) (by omega)
                  refine b_ine_t (pc := 17) rw_38_17 (A := r623.toInt) rfl (by omega) ?_
                  refine to_an (pc := 22) rw_38_22 rfl ?_
                  refine s_gR (pc := 23) rw_38_23 hG625 (by rcases hp with rfl | rfl <;> rfl) (v := (p + 5)) (by rcases hp with rfl | rfl <;> rfl) ?_
                  refine to_an (pc := 26) rw_38_26 rfl ?_
                  have c_639 : M630.2.1 p 2 = (M.2.1 p 2) := (F_n F624 (show ¬ (p = 1 ∧ (2 = 10 ∨ 2 = 11)) by omega) c_607)
                  refine tt_gI (pc := 27) rw_38_27 (g_o hG625 (by rcases hp with rfl | rfl <;> rfl)) (v := (M.2.1 p 2)) c_639 ?_
                  refine to_an (pc := 30) rw_38_30 rfl ?_
                  refine tt_gI (pc := 31) rw_38_31 (g_o hG625 rfl) (v := (M586.2.1 1 8)) c_637 ?_
                  refine s_ias (pc := 34) rw_38_34 hG625 (by rcases hp with rfl | rfl <;> rfl) (n := 8) (by rcases hp with rfl | rfl <;> rfl) (A := (M.2.1 p 2).toInt) rfl (by omega) (by omega) (fun M641 W640 => ?_)
                  have hG642 := g_w hG625 W640 (A := (M586.2.1 1 8).toInt) rfl (lo := 0) (hi := 24) (by rcases hp with rfl | rfl <;> rfl) (by rcases hp with rfl | rfl <;> rfl) (by omega) (by omega)
                  have F643 := FR.w F631 W640 (show (p + 5) = 1 ∧ 6 ≤ ((M.2.1 p 2).toInt).toNat ∧ ((M.2.1 p 2).toInt).toNat ≤ 11 ∨ (p + 5) = p ∧ 2 ≤ ((M.2.1 p 2).toInt).toNat ∨ p + 1 ≤ (p + 5) ∧ (p + 5) ≤ p + 5 by omega)
                  refine to_an (pc := 35) rw_38_35 rfl ?_
                  refine s_v (pc := 36) rw_38_36 (by omega) (ls0 := [.ref 1]) rfl (Nat.le_of_ble_eq_true rfl) (Nat.le_of_ble_eq_true rfl) rfl (to_rc rfl rfl rfl (g_o hG642 rfl)) rfl ?_
                  have j_644 := (CS_f (fun a i z => W_n W640 (by omega) rfl) (CS_f (fun a i z => F_n F624 (show ¬ (a = 1 ∧ (i = 10 ∨ i = 11)) by omega) rfl) j_620))
                  have c_645 : M641.2.1 1 9 = (M586.2.1 1 9) := (W_n W640 (by omega) (F_n F624 (show ¬ (1 = 1 ∧ (9 = 10 ∨ 9 = 11)) by omega) c_621))
                  have t_646 : (M641.2.1 1 9).toInt = (M586.2.1 1 9).toInt := congrArg Int32.toInt c_645
                  refine E_83 hX (by omega) hG642 j_644 (by omega) (t := t) (nn := nn) (a := (x_ns t nn (x_ns t nn (x_ns t nn (x_ns t nn (x_ns t nn a)))))) (fun M651 hG648 F647 p_649 p_650 => ?_)
                  have F652 := FR.c F643 F647 (fun a i z => show a = 1 ∧ 6 ≤ i ∧ i ≤ 11 ∨ a = p ∧ 2 ≤ i ∨ p + 1 ≤ a ∧ a ≤ p + 5 by have z : a = 1 ∧ 6 ≤ i ∧ i ≤ 9 := z; omega)
                  refine to_c (pc := 39) rw_38_39 (x := (1 : Int32)) rfl rfl ?_
                  refine s_r1 (pc := 40) rw_38_40 (A := 1) rfl (by omega) ?_
                  refine b_ieq_f (pc := 131) rw_33_131 (A := 1) rfl (by omega) ?_
                  refine to_c (pc := 134) rw_33_134 (x := (1 : Int32)) rfl rfl ?_
                  refine to_go (pc := 135) rw_33_135 ?_
                  refine to_isn (pc := 139) rw_33_139 (ls2 := [.ref p, .ref 1, .int r53, .int (1 : Int32)]) rfl rfl ?_
                  refine to_in (pc := 140) rw_33_140 rfl ?_
                  refine b_ine_t (pc := 141) rw_33_141 (A := 1) rfl (by omega) ?_
                  refine to_an (pc := 146) rw_33_146 rfl ?_
                  refine to_dupr (pc := 147) rw_33_147 ?_
                  refine tt_gJ (pc := 148) rw_33_148 (g_o hG648 (by rcases hp with rfl | rfl <;> rfl)) (v := (M.2.2.1 p 4)) (F_nl F647 (show ¬ (p = 1 ∧ 6 ≤ 4 ∧ 4 ≤ 9) by omega) (W_j W640 (F_nl F624 (show ¬ (p = 1 ∧ (4 = 10 ∨ 4 = 11)) by omega) (W_j W603 (W_j W598 (W_j W593 (F_nl F582 (show ¬ (p = 1 ∧ 6 ≤ 4 ∧ 4 ≤ 9) by omega) (F_nl F566 (show ¬ (p = 1 ∧ (4 = 10 ∨ 4 = 11)) by omega) (F_nl F546 (show ¬ (p = 1 ∧ (4 = 10 ∨ 4 = 11)) by omega) (F_nl F527 (show ¬ (p = 1 ∧ 6 ≤ 4 ∧ 4 ≤ 9) by omega) (F_nl F511 (show ¬ (p = 1 ∧ (4 = 10 ∨ 4 = 11)) by omega) (F_nl F491 (show ¬ (p = 1 ∧ (4 = 10 ∨ 4 = 11)) by omega) (F_nl F480 (show ¬ (p = 1 ∧ 6 ≤ 4 ∧ 4 ≤ 9) by omega) (W_j W473 (F_nl F54 (show ¬ (p < 0) by omega) (F_nl F47 (show ¬ (p = 1 ∧ 6 ≤ 4 ∧ 4 ≤ 9) by omega) (W_j W40 (F_nl F23 (show ¬ (p = 1 ∧ (4 = 10 ∨ 4 = 11)) by omega) (F_nl F15 (show ¬ (p = 1 ∧ 6 ≤ 4 ∧ 4 ≤ 9) by omega) rfl))))))))))))))))))) ?_
                  refine to_an (pc := 151) rw_33_151 rfl ?_
                  refine s_gR (pc := 152) rw_33_152 hG648 (by rcases hp with rfl | rfl <;> rfl) (v := (p + 3)) (by rcases hp with rfl | rfl <;> rfl) ?_
                  refine to_an (pc := 155) rw_33_155 rfl ?_
                  have c_653 : M651.2.1 p 2 = (M.2.1 p 2) := (F_n F647 (show ¬ (p = 1 ∧ 6 ≤ 2 ∧ 2 ≤ 9) by omega) (W_n W640 (by omega) c_639))
                  refine tt_gI (pc := 156) rw_33_156 (g_o hG648 (by rcases hp with rfl | rfl <;> rfl)) (v := (M.2.1 p 2)) c_653 ?_
                  refine s_ialk (pc := 159) rw_33_159 hG648 (by rcases hp with rfl | rfl <;> rfl) (n := 8) (by rcases hp with rfl | rfl <;> rfl) (by rcases hp with rfl | rfl <;> rfl) (A := (M.2.1 p 2).toInt) rfl (by omega) (by omega) (v := (M484.2.1 1 8)) (F_n F647 (show ¬ ((p + 3) = 1 ∧ 6 ≤ ((M.2.1 p 2).toInt).toNat ∧ ((M.2.1 p 2).toInt).toNat ≤ 9) by omega) (W_n W640 (by omega) (F_n F624 (show ¬ ((p + 3) = 1 ∧ (((M.2.1 p 2).toInt).toNat = 10 ∨ ((M.2.1 p 2).toInt).toNat = 11)) by omega) (W_n W603 (by omega) (W_n W598 (by omega) (W_e W593)))))) ?_
                  refine to_an (pc := 160) rw_33_160 rfl ?_
                  refine s_gR (pc := 161) rw_33_161 hG648 (by rcases hp with rfl | rfl <;> rfl) (v := (p + 4)) (by rcases hp with rfl | rfl <;> rfl) ?_
                  refine to_an (pc := 164) rw_33_164 rfl ?_
                  refine tt_gI (pc := 165) rw_33_165 (g_o hG648 (by rcases hp with rfl | rfl <;> rfl)) (v := (M.2.1 p 2)) c_653 ?_
                  refine s_ialk (pc := 168) rw_33_168 hG648 (by rcases hp with rfl | rfl <;> rfl) (n := 8) (by rcases hp with rfl | rfl <;> rfl) (by rcases hp with rfl | rfl <;> rfl) (A := (M.2.1 p 2).toInt) rfl (by omega) (by omega) (v := (M531.2.1 1 8)) (F_n F647 (show ¬ ((p + 4) = 1 ∧ 6 ≤ ((M.2.1 p 2).toInt).toNat ∧ ((M.2.1 p 2).toInt).toNat ≤ 9) by omega) (W_n W640 (by omega) (F_n F624 (show ¬ ((p + 4) = 1 ∧ (((M.2.1 p 2).toInt).toNat = 10 ∨ ((M.2.1 p 2).toInt).toNat = 11)) by omega) (W_n W603 (by omega) (W_e W598))))) ?_
                  refine s_s (pc := 169) rw_33_169 (by omega) (ls0 := [.int (M484.2.1 1 8), .int (M531.2.1 1 8)]) rfl (Nat.le_of_ble_eq_true rfl) (Nat.le_of_ble_eq_true rfl) rfl (to_rcs rfl rfl) rfl ?_
                  refine to_cl (pc := 0) rw_144_0 rfl (x := (1 : Int64)) rfl ?_
                  refine to_in (pc := 1) rw_144_1 rfl ?_
                  refine to_in (pc := 2) rw_144_2 rfl ?_
                  refine s_sub (pc := 3) rw_144_3 (A := (M531.2.1 1 8).toInt) (B := (M484.2.1 1 8).toInt) rfl rfl (by omega) (fun v658 e659 => ?_)
                  refine to_c (pc := 4) rw_144_4 (x := (1 : Int32)) rfl rfl ?_
                  refine s_add (pc := 5) rw_144_5 (A := v658.toInt) (B := 1) rfl rfl (by omega) (fun v660 e661 => ?_)
                  refine to_2s (pc := 6) rw_144_6 (v := ((1 : Int64) <<< (v660.toInt64 &&& 63))) rfl ?_
                  refine to_cl (pc := 7) rw_144_7 rfl (x := (1 : Int64)) rfl ?_
                  refine to_2l (pc := 8) rw_144_8 (v := (((1 : Int64) <<< (v660.toInt64 &&& 63)) - (1 : Int64))) rfl ?_
                  refine to_in (pc := 9) rw_144_9 rfl ?_
                  refine to_2s (pc := 10) rw_144_10 (v := ((((1 : Int64) <<< (v660.toInt64 &&& 63)) - (1 : Int64)) <<< ((M484.2.1 1 8).toInt64 &&& 63))) rfl ?_
                  refine to_rl (pc := 11) rw_144_11 ?_
                  refine to_2l (pc := 172) rw_33_172 (v := ((M.2.2.1 p 4) ||| ((((1 : Int64) <<< (v660.toInt64 &&& 63)) - (1 : Int64)) <<< ((M484.2.1 1 8).toInt64 &&& 63)))) rfl ?_
                  have j_662 := (PLc_f (fun a i z => F_n F647 (show ¬ (a = 1 ∧ 6 ≤ i ∧ i ≤ 9) by omega) rfl) (F_nl F647 (show ¬ (p = 1 ∧ 6 ≤ 4 ∧ 4 ≤ 9) by omega) rfl) (PLc_f (fun a i z => W_n W640 (by omega) rfl) (W_j W640 rfl) (PLc_f (fun a i z => F_n F624 (show ¬ (a = 1 ∧ (i = 10 ∨ i = 11)) by omega) rfl) (F_nl F624 (show ¬ (p = 1 ∧ (4 = 10 ∨ 4 = 11)) by omega) rfl) (PLc_f (fun a i z => W_n W603 (by omega) rfl) (W_j W603 rfl) (PLc_f (fun a i z => W_n W598 (by omega) rfl) (W_j W598 rfl) (PLc_f (fun a i z => W_n W593 (by omega) rfl) (W_j W593 rfl) (PLc_f (fun a i z => F_n F582 (show ¬ (a = 1 ∧ 6 ≤ i ∧ i ≤ 9) by omega) rfl) (F_nl F582 (show ¬ (p = 1 ∧ 6 ≤ 4 ∧ 4 ≤ 9) by omega) rfl) (PLc_f (fun a i z => F_n F566 (show ¬ (a = 1 ∧ (i = 10 ∨ i = 11)) by omega) rfl) (F_nl F566 (show ¬ (p = 1 ∧ (4 = 10 ∨ 4 = 11)) by omega) rfl) j_564))))))))
                  have r_663 : (M651.2.1 (p + 1) sg.2.1.toNat).toInt = (M19.2.1 1 8).toInt := by rw [show sg.2.1.toNat = ((M.2.1 p 2).toInt).toNat by omega, show M651.2.1 (p + 1) ((M.2.1 p 2).toInt).toNat = (M19.2.1 1 8) from (F_n F647 (show ¬ ((p + 1) = 1 ∧ 6 ≤ ((M.2.1 p 2).toInt).toNat ∧ ((M.2.1 p 2).toInt).toNat ≤ 9) by omega) (W_n W640 (by omega) (F_n F624 (show ¬ ((p + 1) = 1 ∧ (((M.2.1 p 2).toInt).toNat = 10 ∨ ((M.2.1 p 2).toInt).toNat = 11)) by omega) (W_n W603 (by omega) (W_n W598 (by omega) (W_n W593 (by omega) (F_n F582 (show ¬ ((p + 1) = 1 ∧ 6 ≤ ((M.2.1 p 2).toInt).toNat ∧ ((M.2.1 p 2).toInt).toNat ≤ 9) by omega) (F_n F566 (show ¬ ((p + 1) = 1 ∧ (((M.2.1 p 2).toInt).toNat = 10 ∨ ((M.2.1 p 2).toInt).toNat = 11)) by omega) (F_n F546 (show ¬ ((p + 1) = 1 ∧ (((M.2.1 p 2).toInt).toNat = 10 ∨ ((M.2.1 p 2).toInt).toNat = 11)) by omega) (F_n F527 (show ¬ ((p + 1) = 1 ∧ 6 ≤ ((M.2.1 p 2).toInt).toNat ∧ ((M.2.1 p 2).toInt).toNat ≤ 9) by omega) (F_n F511 (show ¬ ((p + 1) = 1 ∧ (((M.2.1 p 2).toInt).toNat = 10 ∨ ((M.2.1 p 2).toInt).toNat = 11)) by omega) (F_n F491 (show ¬ ((p + 1) = 1 ∧ (((M.2.1 p 2).toInt).toNat = 10 ∨ ((M.2.1 p 2).toInt).toNat = 11)) by omega) (F_n F480 (show ¬ ((p + 1) = 1 ∧ 6 ≤ ((M.2.1 p 2).toInt).toNat ∧ ((M.2.1 p 2).toInt).toNat ≤ 9) by omega) (W_n W473 (by omega) (F_n F54 (show ¬ ((p + 1) < 0) by omega) (F_n F47 (show ¬ ((p + 1) = 1 ∧ 6 ≤ ((M.2.1 p 2).toInt).toNat ∧ ((M.2.1 p 2).toInt).toNat ≤ 9) by omega) (W_e W40)))))))))))))))))]
                  have r_664 : (M651.2.1 (p + 2) sg.2.1.toNat).toInt = r53.toInt := by rw [show sg.2.1.toNat = ((M.2.1 p 2).toInt).toNat by omega, show M651.2.1 (p + 2) ((M.2.1 p 2).toInt).toNat = r53 from (F_n F647 (show ¬ ((p + 2) = 1 ∧ 6 ≤ ((M.2.1 p 2).toInt).toNat ∧ ((M.2.1 p 2).toInt).toNat ≤ 9) by omega) (W_n W640 (by omega) (F_n F624 (show ¬ ((p + 2) = 1 ∧ (((M.2.1 p 2).toInt).toNat = 10 ∨ ((M.2.1 p 2).toInt).toNat = 11)) by omega) (W_n W603 (by omega) (W_n W598 (by omega) (W_n W593 (by omega) (F_n F582 (show ¬ ((p + 2) = 1 ∧ 6 ≤ ((M.2.1 p 2).toInt).toNat ∧ ((M.2.1 p 2).toInt).toNat ≤ 9) by omega) (F_n F566 (show ¬ ((p + 2) = 1 ∧ (((M.2.1 p 2).toInt).toNat = 10 ∨ ((M.2.1 p 2).toInt).toNat = 11)) by omega) (F_n F546 (show ¬ ((p + 2) = 1 ∧ (((M.2.1 p 2).toInt).toNat = 10 ∨ ((M.2.1 p 2).toInt).toNat = 11)) by omega) (F_n F527 (show ¬ ((p + 2) = 1 ∧ 6 ≤ ((M.2.1 p 2).toInt).toNat ∧ ((M.2.1 p 2).toInt).toNat ≤ 9) by omega) (F_n F511 (show ¬ ((p + 2) = 1 ∧ (((M.2.1 p 2).toInt).toNat = 10 ∨ ((M.2.1 p 2).toInt).toNat = 11)) by omega) (F_n F491 (show ¬ ((p + 2) = 1 ∧ (((M.2.1 p 2).toInt).toNat = 10 ∨ ((M.2.1 p 2).toInt).toNat = 11)) by omega) (F_n F480 (show ¬ ((p + 2) = 1 ∧ 6 ≤ ((M.2.1 p 2).toInt).toNat ∧ ((M.2.1 p 2).toInt).toNat ≤ 9) by omega) (W_e W473))))))))))))))]
                  have r_665 : (M651.2.1 (p + 3) sg.2.1.toNat).toInt = (M484.2.1 1 8).toInt := by rw [show sg.2.1.toNat = ((M.2.1 p 2).toInt).toNat by omega, show M651.2.1 (p + 3) ((M.2.1 p 2).toInt).toNat = (M484.2.1 1 8) from (F_n F647 (show ¬ ((p + 3) = 1 ∧ 6 ≤ ((M.2.1 p 2).toInt).toNat ∧ ((M.2.1 p 2).toInt).toNat ≤ 9) by omega) (W_n W640 (by omega) (F_n F624 (show ¬ ((p + 3) = 1 ∧ (((M.2.1 p 2).toInt).toNat = 10 ∨ ((M.2.1 p 2).toInt).toNat = 11)) by omega) (W_n W603 (by omega) (W_n W598 (by omega) (W_e W593))))))]
                  have r_666 : (M651.2.1 (p + 4) sg.2.1.toNat).toInt = (M531.2.1 1 8).toInt := by rw [show sg.2.1.toNat = ((M.2.1 p 2).toInt).toNat by omega, show M651.2.1 (p + 4) ((M.2.1 p 2).toInt).toNat = (M531.2.1 1 8) from (F_n F647 (show ¬ ((p + 4) = 1 ∧ 6 ≤ ((M.2.1 p 2).toInt).toNat ∧ ((M.2.1 p 2).toInt).toNat ≤ 9) by omega) (W_n W640 (by omega) (F_n F624 (show ¬ ((p + 4) = 1 ∧ (((M.2.1 p 2).toInt).toNat = 10 ∨ ((M.2.1 p 2).toInt).toNat = 11)) by omega) (W_n W603 (by omega) (W_e W598)))))]
                  have r_667 : (M651.2.1 (p + 5) sg.2.1.toNat).toInt = (M586.2.1 1 8).toInt := by rw [show sg.2.1.toNat = ((M.2.1 p 2).toInt).toNat by omega, show M651.2.1 (p + 5) ((M.2.1 p 2).toInt).toNat = (M586.2.1 1 8) from (F_n F647 (show ¬ ((p + 5) = 1 ∧ 6 ≤ ((M.2.1 p 2).toInt).toNat ∧ ((M.2.1 p 2).toInt).toNat ≤ 9) by omega) (W_e W640))]
                  refine s_pJ (pc := 173) rw_33_173 hG648 (by rcases hp with rfl | rfl <;> rfl) (fun M669 W668 => ?_)
                  have hG670 := g_wl hG648 W668
                  have F671 := FR.wl F652 W668 (show p = 1 ∧ 6 ≤ 4 ∧ 4 ≤ 11 ∨ p = p ∧ 2 ≤ 4 ∨ p + 1 ≤ p ∧ p ≤ p + 5 by omega)
                  refine to_an (pc := 176) rw_33_176 rfl ?_
                  refine to_dupr (pc := 177) rw_33_177 ?_
                  have c_672 : M669.2.1 p 2 = (M.2.1 p 2) := (W_l W668 c_653)
                  refine tt_gI (pc := 178) rw_33_178 (g_o hG670 (by rcases hp with rfl | rfl <;> rfl)) (v := (M.2.1 p 2)) c_672 ?_
                  refine to_c (pc := 181) rw_33_181 (x := (1 : Int32)) rfl rfl ?_
                  refine s_add (pc := 182) rw_33_182 (A := (M.2.1 p 2).toInt) (B := 1) rfl rfl (by omega) (fun v673 e674 => ?_)
                  refine s_pI (pc := 183) rw_33_183 hG670 (by rcases hp with rfl | rfl <;> rfl) (fun M676 W675 => ?_)
                  have hG677 := g_w hG670 W675 (A := v673.toInt) rfl (lo := 0) (hi := 8) (by rcases hp with rfl | rfl <;> rfl) (by rcases hp with rfl | rfl <;> rfl) (by omega) (by omega)
                  have F678 := FR.w F671 W675 (show p = 1 ∧ 6 ≤ 2 ∧ 2 ≤ 11 ∨ p = p ∧ 2 ≤ 2 ∨ p + 1 ≤ p ∧ p ≤ p + 5 by omega)
                  refine to_c (pc := 186) rw_33_186 (x := (1 : Int32)) rfl rfl ?_
                  refine s_r1 (pc := 187) rw_33_187 (A := 1) rfl (by omega) ?_
                  have j_679 := (CS_f (fun a i z => W_n W675 (by omega) rfl) (CS_f (fun a i z => W_l W668 rfl) p_649))
                  have c_680 : M676.2.1 1 9 = (M651.2.1 1 9) := (W_n W675 (by omega) (W_l W668 rfl))
                  have t_681 : (M676.2.1 1 9).toInt = (M651.2.1 1 9).toInt := congrArg Int32.toInt c_680
                  have z_682 : x_fC t nn sg (x_ns t nn a) := by unfold x_fC; omega
                  have j_683 := PLc_p (nm := (x_val t nn (x_ns t nn a))) (kd := 3) (f := (x_val t nn (x_ns t nn (x_ns t nn (x_ns t nn a))))) (l := (x_val t nn (x_ns t nn (x_ns t nn (x_ns t nn (x_ns t nn a)))))) (c := (x_val t nn (x_ns t nn (x_ns t nn (x_ns t nn (x_ns t nn (x_ns t nn a))))))) j_662 W668 W675 (x_or_e q3 (by omega) (by omega)) (by omega) (by omega) (r_663.trans (by omega)) (r_664.trans (by omega)) (r_665.trans (by omega)) (r_666.trans (by omega)) (r_667.trans (by omega)) (by omega) (by omega) (by omega) (by omega)
                  exact h (1 : Int32) M676 hG677 F678 (by omega) (by omega) j_679 (fun z => absurd z (by decide)) (fun _ => ⟨_, (by rw [show (M676.2.1 1 9).toInt = (x_ns t nn (x_ns t nn (x_ns t nn (x_ns t nn (x_ns t nn (x_ns t nn a)))))) by omega]; exact x_field_3 z_682 (by omega)), j_683, (by show sg.2.1 + 1 + sg.2.2.1 = _; omega)⟩)
  · refine to_an (pc := 9) rw_33_9 rfl ?_
    refine to_c (pc := 10) rw_33_10 (x := (2 : Int32)) rfl rfl ?_
    refine s_v (pc := 11) rw_33_11 (by omega) (ls0 := [.ref 1, .int (2 : Int32)]) rfl (Nat.le_of_ble_eq_true rfl) (Nat.le_of_ble_eq_true rfl) rfl (to_rc rfl rfl rfl (g_o hG rfl)) rfl ?_
    refine to_an (pc := 0) rw_84_0 rfl ?_
    refine to_in (pc := 1) rw_84_1 rfl ?_
    refine s_pI (pc := 2) rw_84_2 hG rfl (fun M685 W684 => ?_)
    have hG686 := g_wf hG W684 rfl rfl (by decide)
    have F687 := FR.w F0 W684 (show 1 = 1 ∧ 6 ≤ 10 ∧ 10 ≤ 11 ∨ 1 = p ∧ 2 ≤ 10 ∨ p + 1 ≤ 1 ∧ 1 ≤ p + 5 by omega)
    refine to_an (pc := 5) rw_84_5 rfl ?_
    refine to_an (pc := 6) rw_84_6 rfl ?_
    have c_688 : M685.2.1 1 9 = (M.2.1 1 9) := (W_n W684 (by decide) rfl)
    refine tt_gI (pc := 7) rw_84_7 (g_o hG686 rfl) (v := (M.2.1 1 9)) c_688 ?_
    refine s_pI (pc := 10) rw_84_10 hG686 rfl (fun M690 W689 => ?_)
    have hG691 := g_wf hG686 W689 rfl rfl (by decide)
    have F692 := FR.w F687 W689 (show 1 = 1 ∧ 6 ≤ 11 ∧ 11 ≤ 11 ∨ 1 = p ∧ 2 ≤ 11 ∨ p + 1 ≤ 1 ∧ 1 ≤ p + 5 by omega)
    refine to_c (pc := 13) rw_84_13 (x := (0 : Int32)) rfl rfl ?_
    refine s_r1 (pc := 14) rw_84_14 (A := 0) rfl (by omega) ?_
    refine s_r1 (pc := 14) rw_33_14 (A := 0) rfl (by omega) ?_
    have k_693 : (0 : Int32).toInt = 0 := rfl
    have j_694 := (CS_f (fun a i z => W_n W689 (by omega) rfl) (CS_f (fun a i z => W_n W684 (by omega) rfl) q1))
    exact h (0 : Int32) M690 hG691 F692 (by omega) (by omega) j_694 (fun _ => x_field_n (fun h9 => by unfold x_fC at h9; omega)) (fun z => absurd z (by decide))
